set_option maxRecDepth 100000 in
set_option maxHeartbeats 4000000 in
theorem ct_X2_nameByPlaceAbove {l : Launch} {g : Geo} {X : Mm} {K : AV → Mm → Prop} {v : Mv} (hX : MvC X 5 v) (hv : Vd v) (hn6 : vn v ≤ 6) (h0 : X 37 0 = (vn v : Int)) (hk : ∀ X2, (∀ d j, d ≠ 41 → X2 d j = X d j) → Rw X2 41 (vn v) (nmA v) → K (vI 0) X2) : Ct l g mX2_nameByPlaceAbove [vR 37, vR 5] X K := by
  refine enter (by decide) (Nat.le_of_ble_eq_true rfl) (fun κ => ?_)
  have hps : ∀ j, j < vn v → nmA v j < vn v ∧ va v (nmA v j) = vu v j := fun j hj => posI_spec hv.2.2.2.2.1 (hv.2.2.2.2.2.1.1 j hj)
  have loop : ∀ i, i ≤ vn v → ∀ X2, (∀ d j, d ≠ 41 → X2 d j = X d j) → (∀ q, q < vn v → nmA v q < i → X2 41 q = (nmA v q : Int)) → G l g mX2_nameByPlaceAbove κ K 2 [(0, vR 37), (1, vR 5), (2, vI (i : Int))] [] X2 := by
    refine upTo (vn v) ?_
    intro i hi ih X2 hfr hrow
    have z0 : X2 37 0 = (vn v : Int) := (hfr 37 0 (by decide)).trans h0
    have inner : i < vn v → ∀ j, j ≤ vn v → ∀ X3, (∀ d q, d ≠ 41 → X3 d q = X d q) → (∀ q, q < vn v → (nmA v q < i ∨ (nmA v q = i ∧ q < j)) → X3 41 q = (nmA v q : Int)) → G l g mX2_nameByPlaceAbove κ K 12 [(0, vR 37), (1, vR 5), (2, vI (i : Int)), (3, vI (j : Int))] [] X3 := by
      intro hin
      have ha8 := hv.2.2.2.2.1.1 i hin
      refine upTo (vn v) ?_
      intro j hj ih2 X3 hfr3 hrow3
      have z03 : X3 37 0 = (vn v : Int) := (hfr3 37 0 (by decide)).trans h0
      refine g_iload_n rfl dX2_nameByPlaceAbove_12 ?_
      refine g_aload_n rfl dX2_nameByPlaceAbove_13 ?_
      refine gf_X2_31 rfl (by first | rfl | assumption) dX2_nameByPlaceAbove_14 ?_
      refine g_icmp_ge (t := 48) dX2_nameByPlaceAbove_17 (by decide) (by first | omega | (simp [st2]; done) | (simp [st2]; omega)) (by first | omega | (simp [st2]; done) | (simp [st2]; omega)) (fun b17 => ?_) (fun b17 => ?_)
      · refine g_iinc rfl (by decide) dX2_nameByPlaceAbove_48 ?_
        refine g_goto (t := 2) dX2_nameByPlaceAbove_51 (by decide) ?_
        refine g_subl [(0, vR 37), (1, vR 5), (2, vI ((i + 1 : Nat) : Int))] rfl ?_
        exact ih (i + 1) (by omega) (by omega) X3 hfr3 (fun q hq hc => hrow3 q hq (by omega))
      · have e1 : X3 8 i = (va v i : Int) := (hfr3 8 i (by decide)).trans (hX.2.2.1 i (by omega)).2.2.1
        have e2 : X3 9 j = (vu v j : Int) := (hfr3 9 j (by decide)).trans (hX.2.2.1 j (by omega)).2.2.2
        have hu8 := hv.2.2.2.2.2.1.1 j (by omega)
        have hpj := hps j (by omega)
        refine g_aload_n rfl dX2_nameByPlaceAbove_20 ?_
        refine gf_X2_52 (c2 := 9) rfl rfl (by first | rfl | assumption) dX2_nameByPlaceAbove_21 ?_
        refine g_iload_n rfl dX2_nameByPlaceAbove_24 ?_
        refine g_iald (n := 8) (_) (by first | rfl | assumption) (by first | rfl | assumption) rfl (by first | omega | (simp [st2]; done) | (simp [st2]; omega)) (by first | omega | (simp [st2]; done) | (simp [st2]; omega)) dX2_nameByPlaceAbove_25 ?_
        refine g_aload_n rfl dX2_nameByPlaceAbove_26 ?_
        refine gf_X2_55 (c2 := 8) rfl rfl (by first | rfl | assumption) dX2_nameByPlaceAbove_27 ?_
        refine g_iload_n rfl dX2_nameByPlaceAbove_30 ?_
        refine g_iald (n := 8) (_) (by first | rfl | assumption) (by first | rfl | assumption) rfl (by first | omega | (simp [st2]; done) | (simp [st2]; omega)) (by first | omega | (simp [st2]; done) | (simp [st2]; omega)) dX2_nameByPlaceAbove_31 ?_
        refine g_icmp_ne (t := 42) dX2_nameByPlaceAbove_32 (by decide) (by first | omega | (simp [st2]; done) | (simp [st2]; omega)) (by first | omega | (simp [st2]; done) | (simp [st2]; omega)) (fun b32 => ?_) (fun b32 => ?_)
        · have hne : nmA v j ≠ i := fun z => by
            rw [z] at hpj
            omega
          refine g_iinc rfl (by decide) dX2_nameByPlaceAbove_42 ?_
          refine g_goto (t := 12) dX2_nameByPlaceAbove_45 (by decide) ?_
          refine g_subl [(0, vR 37), (1, vR 5), (2, vI (i : Int)), (3, vI ((j + 1 : Nat) : Int))] rfl ?_
          first
            | (refine ih2 (j + 1) (by omega) (by omega) X3 hfr3 (fun q hq hc => hrow3 q hq ?_)
               by_cases z : q = j
               · subst z; omega
               · omega)
            | (refine ih2 (j + 1) (by omega) (by omega) _ (fun d q hd => by simp only [st2, if_neg hd]; exact hfr3 d q hd) (fun q hq hc => ?_)
               by_cases z : q = j
               · subst z
                 simp only [st2, if_true]
                 omega
               · simp only [st2, if_true, if_neg z]
                 exact hrow3 q hq (by omega))
        · have heq : nmA v j = i := hv.2.2.2.2.1.2 _ i hpj.1 hin (by omega)
          refine g_aload_n rfl dX2_nameByPlaceAbove_35 ?_
          refine gf_X2_22 (c2 := 41) rfl rfl (by first | rfl | assumption) dX2_nameByPlaceAbove_36 ?_
          refine g_iload_n rfl dX2_nameByPlaceAbove_39 ?_
          refine g_iload_n rfl dX2_nameByPlaceAbove_40 ?_
          refine g_iast (n := 6) (_) (by first | rfl | assumption) (by first | rfl | assumption) rfl (by first | omega | (simp [st2]; done) | (simp [st2]; omega)) (by first | omega | (simp [st2]; done) | (simp [st2]; omega)) dX2_nameByPlaceAbove_41 ?_
          refine g_iinc rfl (by decide) dX2_nameByPlaceAbove_42 ?_
          refine g_goto (t := 12) dX2_nameByPlaceAbove_45 (by decide) ?_
          refine g_subl [(0, vR 37), (1, vR 5), (2, vI (i : Int)), (3, vI ((j + 1 : Nat) : Int))] rfl ?_
          first
            | (refine ih2 (j + 1) (by omega) (by omega) X3 hfr3 (fun q hq hc => hrow3 q hq ?_)
               by_cases z : q = j
               · subst z; omega
               · omega)
            | (refine ih2 (j + 1) (by omega) (by omega) _ (fun d q hd => by simp only [st2, if_neg hd]; exact hfr3 d q hd) (fun q hq hc => ?_)
               by_cases z : q = j
               · subst z
                 simp only [st2, if_true]
                 omega
               · simp only [st2, if_true, if_neg z]
                 exact hrow3 q hq (by omega))
    refine g_iload_n rfl dX2_nameByPlaceAbove_2 ?_
    refine g_aload_n rfl dX2_nameByPlaceAbove_3 ?_
    refine gf_X2_31 rfl (by first | rfl | assumption) dX2_nameByPlaceAbove_4 ?_
    refine g_icmp_ge (t := 54) dX2_nameByPlaceAbove_7 (by decide) (by first | omega | (simp [st2]; done) | (simp [st2]; omega)) (by first | omega | (simp [st2]; done) | (simp [st2]; omega)) (fun b7 => ?_) (fun b7 => ?_)
    · refine g_return rfl dX2_nameByPlaceAbove_54 ?_
      refine hk X2 hfr (fun q hq => hrow q hq ?_)
      have := (hps q hq).1
      omega
    · refine g_iconst dX2_nameByPlaceAbove_10 ?_
      refine g_istore_n (by decide) dX2_nameByPlaceAbove_11 ?_
      refine g_subl [(0, vR 37), (1, vR 5), (2, vI (i : Int)), (3, vI ((0 : Nat) : Int))] rfl ?_
      exact inner (by omega) 0 (by omega) X2 hfr (fun q hq hc => hrow q hq (by omega))
  refine g_iconst dX2_nameByPlaceAbove_0 ?_
  refine g_istore_n (by decide) dX2_nameByPlaceAbove_1 ?_
  refine g_subl [(0, vR 37), (1, vR 5), (2, vI ((0 : Nat) : Int))] rfl ?_
  exact loop 0 (by omega) X (fun _ _ _ => rfl) (fun q hq hc => by omega)
set_option maxRecDepth 100000 in
set_option maxHeartbeats 4000000 in
theorem ct_X2_rankOfNext {l : Launch} {g : Geo} {X : Mm} {K : AV → Mm → Prop} {n : Nat} {f : Nat → Nat} (hn : X 37 0 = (n : Int)) (hn6 : 2 ≤ n ∧ n ≤ 6) (hf : Rw X 41 n f) (hl : ∀ j, j < n → f j < n) (hk : K (vI (rkl n f n : Int)) X) : Ct l g mX2_rankOfNext [vR 37] X K := by
  refine enter (by decide) (Nat.le_of_ble_eq_true rfl) (fun κ => ?_)
  have loop : ∀ i, i ≤ n → G l g mX2_rankOfNext κ K 4 [(0, vR 37), (1, vI (rkl n f i : Int)), (2, vI (i : Int))] [] X := by
    refine upTo n ?_
    intro i hi ih
    have inner : i < n → ∀ j, j ≤ n → i < j → G l g mX2_rankOfNext κ K 19 [(0, vR 37), (1, vI (rkl n f i : Int)), (2, vI (i : Int)), (3, vI (fb_ct (lsB f i) j : Int)), (4, vI (j : Int))] [] X := by
      intro hin
      have ei := hf i hin
      have li := hl i hin
      refine upTo n ?_
      intro j hj ih2 hij
      have hs : fb_ct (lsB f i) (j + 1) = fb_ct (lsB f i) j + (if lsB f i j = true then 1 else 0) := fb_ct_succ _ _
      refine g_iload rfl dX2_rankOfNext_19 ?_
      refine g_aload_n rfl dX2_rankOfNext_21 ?_
      refine gf_X2_31 rfl (by first | rfl | assumption) dX2_rankOfNext_22 ?_
      refine g_icmp_ge (t := 53) dX2_rankOfNext_25 (by decide) (by first | omega | (simp [st2]; done) | (simp [st2]; omega)) (by first | omega | (simp [st2]; done) | (simp [st2]; omega)) (fun b25 => ?_) (fun b25 => ?_)
      · refine g_iload_n rfl dX2_rankOfNext_53 ?_
        refine g_aload_n rfl dX2_rankOfNext_54 ?_
        refine gf_X2_31 rfl (by first | rfl | assumption) dX2_rankOfNext_55 ?_
        refine g_iload_n rfl dX2_rankOfNext_58 ?_
        refine g_isub dX2_rankOfNext_59 ?_
        refine g_imul dX2_rankOfNext_60 ?_
        refine g_iload_n rfl dX2_rankOfNext_61 ?_
        refine g_iadd dX2_rankOfNext_62 ?_
        refine g_istore_n (by decide) dX2_rankOfNext_63 ?_
        refine g_iinc rfl (by decide) dX2_rankOfNext_64 ?_
        refine g_goto (t := 4) dX2_rankOfNext_67 (by decide) ?_
        obtain rfl : j = n := by omega
        refine g_subl [(0, vR 37), (1, vI (rkl j f (i + 1) : Int)), (2, vI ((i + 1 : Nat) : Int))] ?_ ?_
        · have e : ((rkl j f (i + 1) : Nat) : Int) = (rkl j f i : Int) * (X 37 0 - (i : Int)) + (fb_ct (lsB f i) j : Int) := by
            rw [hn, rkl, Int.natCast_add, Int.natCast_mul, Int.ofNat_sub (by omega)]
            rfl
          rw [e]
          rfl
        · exact ih (i + 1) (by omega) (by omega)
      · have ej := hf j (by omega)
        have lj := hl j (by omega)
        refine g_aload_n rfl dX2_rankOfNext_28 ?_
        refine gf_X2_22 (c2 := 41) rfl rfl (by first | rfl | assumption) dX2_rankOfNext_29 ?_
        refine g_iload rfl dX2_rankOfNext_32 ?_
        refine g_iald (n := 6) (_) (by first | rfl | assumption) (by first | rfl | assumption) rfl (by first | omega | (simp [st2]; done) | (simp [st2]; omega)) (by first | omega | (simp [st2]; done) | (simp [st2]; omega)) dX2_rankOfNext_34 ?_
        refine g_aload_n rfl dX2_rankOfNext_35 ?_
        refine gf_X2_22 (c2 := 41) rfl rfl (by first | rfl | assumption) dX2_rankOfNext_36 ?_
        refine g_iload_n rfl dX2_rankOfNext_39 ?_
        refine g_iald (n := 6) (_) (by first | rfl | assumption) (by first | rfl | assumption) rfl (by first | omega | (simp [st2]; done) | (simp [st2]; omega)) (by first | omega | (simp [st2]; done) | (simp [st2]; omega)) dX2_rankOfNext_40 ?_
        refine g_icmp_ge (t := 47) dX2_rankOfNext_41 (by decide) (by first | omega | (simp [st2]; done) | (simp [st2]; omega)) (by first | omega | (simp [st2]; done) | (simp [st2]; omega)) (fun b41 => ?_) (fun b41 => ?_)
        · rw [if_neg (by unfold lsB; simp only [Bool.and_eq_true, decide_eq_true_eq]; omega)] at hs
          refine g_iinc rfl (by decide) dX2_rankOfNext_47 ?_
          refine g_goto (t := 19) dX2_rankOfNext_50 (by decide) ?_
          refine g_subl [(0, vR 37), (1, vI (rkl n f i : Int)), (2, vI (i : Int)), (3, vI (fb_ct (lsB f i) (j + 1) : Int)), (4, vI ((j + 1 : Nat) : Int))] (by rw [hs]; rfl) ?_
          exact ih2 (j + 1) (by omega) (by omega) (by omega)
        · rw [if_pos (by unfold lsB; simp only [Bool.and_eq_true, decide_eq_true_eq]; omega)] at hs
          refine g_iinc rfl (by decide) dX2_rankOfNext_44 ?_
          refine g_iinc rfl (by decide) dX2_rankOfNext_47 ?_
          refine g_goto (t := 19) dX2_rankOfNext_50 (by decide) ?_
          refine g_subl [(0, vR 37), (1, vI (rkl n f i : Int)), (2, vI (i : Int)), (3, vI (fb_ct (lsB f i) (j + 1) : Int)), (4, vI ((j + 1 : Nat) : Int))] (by rw [hs]; rfl) ?_
          exact ih2 (j + 1) (by omega) (by omega) (by omega)
    refine g_iload_n rfl dX2_rankOfNext_4 ?_
    refine g_aload_n rfl dX2_rankOfNext_5 ?_
    refine gf_X2_31 rfl (by first | rfl | assumption) dX2_rankOfNext_6 ?_
    refine g_icmp_ge (t := 70) dX2_rankOfNext_9 (by decide) (by first | omega | (simp [st2]; done) | (simp [st2]; omega)) (by first | omega | (simp [st2]; done) | (simp [st2]; omega)) (fun b9 => ?_) (fun b9 => ?_)
    · refine g_iload_n rfl dX2_rankOfNext_70 ?_
      refine g_ireturn rfl dX2_rankOfNext_71 ?_
      obtain rfl : i = n := by omega
      exact hk
    · refine g_iconst dX2_rankOfNext_12 ?_
      refine g_istore_n (by decide) dX2_rankOfNext_13 ?_
      refine g_iload_n rfl dX2_rankOfNext_14 ?_
      refine g_iconst dX2_rankOfNext_15 ?_
      refine g_iadd dX2_rankOfNext_16 ?_
      refine g_istore (by decide) dX2_rankOfNext_17 ?_
      refine g_subl [(0, vR 37), (1, vI (rkl n f i : Int)), (2, vI (i : Int)), (3, vI (fb_ct (lsB f i) (i + 1) : Int)), (4, vI ((i + 1 : Nat) : Int))] (by rw [lss_0]; rfl) ?_
      exact inner (by omega) (i + 1) (by omega) (by omega)
  refine g_iconst dX2_rankOfNext_0 ?_
  refine g_istore_n (by decide) dX2_rankOfNext_1 ?_
  refine g_iconst dX2_rankOfNext_2 ?_
  refine g_istore_n (by decide) dX2_rankOfNext_3 ?_
  refine g_subl [(0, vR 37), (1, vI (rkl n f 0 : Int)), (2, vI ((0 : Nat) : Int))] rfl ?_
  exact loop 0 (by omega)
theorem pkl_or {f : Nat → Nat} {j : Nat} (hf : ∀ q, q < j → f q < 16) : pkl 16 f j ||| f j * 2 ^ (4 * j) = pkl 16 f (j + 1) := by
  have h1 := pkl_lt j hf
  have e : (16 : Nat) ^ j = 2 ^ (4 * j) := by rw [Nat.pow_mul]
  rw [e] at h1
  rw [pkl, e, Nat.or_comm, Nat.mul_comm (f j), ← Nat.two_pow_add_eq_or_of_lt h1]
  omega
set_option maxRecDepth 100000 in
theorem ct_X2_packNext {l : Launch} {g : Geo} {X : Mm} {K : AV → Mm → Prop} {n : Nat} {f : Nat → Nat} (hn : X 37 0 = (n : Int)) (hn6 : 2 ≤ n ∧ n ≤ 6) (hf : Rw X 41 n f) (hl : ∀ j, j < n → f j < n) (hk : K (vI (pkl 16 f n : Int)) X) : Ct l g mX2_packNext [vR 37] X K := by
  refine enter (by decide) (Nat.le_of_ble_eq_true rfl) (fun κ => ?_)
  have loop : ∀ i, i ≤ n → G l g mX2_packNext κ K 4 [(0, vR 37), (1, vI (pkl 16 f i : Int)), (2, vI (i : Int))] [] X := by
    refine upTo n ?_
    intro i hi ih
    refine g_iload_n rfl dX2_packNext_4 ?_
    refine g_aload_n rfl dX2_packNext_5 ?_
    refine gf_X2_31 rfl (by first | rfl | assumption) dX2_packNext_6 ?_
    refine g_icmp_ge (t := 31) dX2_packNext_9 (by decide) (by first | omega | (simp [st2]; done) | (simp [st2]; omega)) (by first | omega | (simp [st2]; done) | (simp [st2]; omega)) (fun b9 => ?_) (fun b9 => ?_)
    · refine g_iload_n rfl dX2_packNext_31 ?_
      refine g_ireturn rfl dX2_packNext_32 ?_
      obtain rfl : i = n := by omega
      exact hk
    · have ei := hf i (by omega)
      have li := hl i (by omega)
      refine g_iload_n rfl dX2_packNext_12 ?_
      refine g_aload_n rfl dX2_packNext_13 ?_
      refine gf_X2_22 (c2 := 41) rfl rfl (by first | rfl | assumption) dX2_packNext_14 ?_
      refine g_iload_n rfl dX2_packNext_17 ?_
      refine g_iald (n := 6) (_) (by first | rfl | assumption) (by first | rfl | assumption) rfl (by first | omega | (simp [st2]; done) | (simp [st2]; omega)) (by first | omega | (simp [st2]; done) | (simp [st2]; omega)) dX2_packNext_18 ?_
      rw [ei]
      refine g_iconst dX2_packNext_19 ?_
      refine g_iload_n rfl dX2_packNext_20 ?_
      refine g_imul dX2_packNext_21 ?_
      refine g_ishl (4 * i) (by first | omega | (simp [st2]; done) | (simp [st2]; omega)) (by first | omega | (simp [st2]; done) | (simp [st2]; omega)) dX2_packNext_22 ?_
      refine g_ior (pkl 16 f i) (f i * 2 ^ (4 * i)) rfl (by rw [Int.natCast_mul, Int.natCast_pow]; rfl) dX2_packNext_23 ?_
      refine g_istore_n (by decide) dX2_packNext_24 ?_
      refine g_iinc rfl (by decide) dX2_packNext_25 ?_
      refine g_goto (t := 4) dX2_packNext_28 (by decide) ?_
      refine g_subl [(0, vR 37), (1, vI (pkl 16 f (i + 1) : Int)), (2, vI ((i + 1 : Nat) : Int))] (by rw [← pkl_or (fun q hq => by have := hl q (by omega); omega)]; rfl) ?_
      exact ih (i + 1) (by omega) (by omega)
  refine g_iconst dX2_packNext_0 ?_
  refine g_istore_n (by decide) dX2_packNext_1 ?_
  refine g_iconst dX2_packNext_2 ?_
  refine g_istore_n (by decide) dX2_packNext_3 ?_
  refine g_subl [(0, vR 37), (1, vI (pkl 16 f 0 : Int)), (2, vI ((0 : Nat) : Int))] rfl ?_
  exact loop 0 (by omega)
theorem pkl_n16 {f : Nat → Nat} {n : Nat} (hn : n ≤ 6) (hl : ∀ j, j < n → f j < n) : pkl 16 f n < 16777216 := by
  have h1 := pkl_lt (b := 16) (f := f) n (fun j hj => by have := hl j hj; omega)
  have h2 : (16 : Nat) ^ n ≤ 16 ^ 6 := Nat.pow_le_pow_right (by decide) hn
  omega
set_option maxRecDepth 100000 in
theorem ct_X2_unpack {l : Launch} {g : Geo} {X : Mm} {K : AV → Mm → Prop} {n : Nat} {f : Nat → Nat} (hn : X 37 0 = (n : Int)) (hn6 : 2 ≤ n ∧ n ≤ 6) (hl : ∀ j, j < n → f j < n) (hk : ∀ X2, (∀ d j, d ≠ 40 → X2 d j = X d j) → Rw X2 40 n f → K (vI 0) X2) : Ct l g mX2_unpack [vR 37, vI (pkl 16 f n : Int)] X K := by
  refine enter (by decide) (Nat.le_of_ble_eq_true rfl) (fun κ => ?_)
  have hp := pkl_n16 hn6.2 hl
  have loop : ∀ i, i ≤ n → ∀ X2, (∀ d j, d ≠ 40 → X2 d j = X d j) → Rw X2 40 i f → G l g mX2_unpack κ K 2 [(0, vR 37), (1, vI (pkl 16 f n : Int)), (2, vI (i : Int))] [] X2 := by
    refine upTo n ?_
    intro i hi ih X2 hfr hrow
    have z0 : X2 37 0 = (n : Int) := (hfr 37 0 (by decide)).trans hn
    refine g_iload_n rfl dX2_unpack_2 ?_
    refine g_aload_n rfl dX2_unpack_3 ?_
    refine gf_X2_31 rfl (by first | rfl | assumption) dX2_unpack_4 ?_
    refine g_icmp_ge (t := 30) dX2_unpack_7 (by decide) (by first | omega | (simp [st2]; done) | (simp [st2]; omega)) (by first | omega | (simp [st2]; done) | (simp [st2]; omega)) (fun b7 => ?_) (fun b7 => ?_)
    · refine g_return rfl dX2_unpack_30 ?_
      obtain rfl : i = n := by omega
      exact hk X2 hfr hrow
    · refine g_aload_n rfl dX2_unpack_10 ?_
      refine gf_X2_19 (c2 := 40) rfl rfl (by first | rfl | assumption) dX2_unpack_11 ?_
      refine g_iload_n rfl dX2_unpack_14 ?_
      refine g_iload_n rfl dX2_unpack_15 ?_
      refine g_iconst dX2_unpack_16 ?_
      refine g_iload_n rfl dX2_unpack_17 ?_
      refine g_imul dX2_unpack_18 ?_
      refine g_iushr (4 * i) (by first | omega | (simp [st2]; done) | (simp [st2]; omega)) (by first | omega | (simp [st2]; done) | (simp [st2]; omega)) dX2_unpack_19 ?_
      refine g_bipush (by decide) dX2_unpack_20 ?_
      refine g_iand (4) (by decide) (by decide) dX2_unpack_22 ?_
      refine g_iast (n := 6) (_) (by first | rfl | assumption) (by first | rfl | assumption) rfl (by first | omega | (simp [st2]; done) | (simp [st2]; omega)) (by first | omega | (simp [st2]; done) | (simp [st2]; omega)) dX2_unpack_23 ?_
      refine g_iinc rfl (by decide) dX2_unpack_24 ?_
      refine g_goto (t := 2) dX2_unpack_27 (by decide) ?_
      refine g_subl [(0, vR 37), (1, vI (pkl 16 f n : Int)), (2, vI ((i + 1 : Nat) : Int))] rfl ?_
      refine ih (i + 1) (by omega) (by omega) _ (fun d j hd => by simp only [st2, if_neg hd]; exact hfr d j hd) (fun c hc => ?_)
      by_cases z : c = i
      · subst z
        simp only [st2, if_true]
        have h1 := pkl_dig (b := 16) (f := f) (by decide) n (fun j hj => by have := hl j hj; omega) c (by omega)
        rw [show (16 : Nat) ^ c = 2 ^ (4 * c) by rw [Nat.pow_mul]] at h1
        rw [← h1, Int.emod_eq_of_lt (a := (pkl 16 f n : Int)) (b := 4294967296) (by omega) (by omega), Int.natCast_emod, Int.natCast_ediv, Int.natCast_pow]
        rfl
      · simp only [st2, if_true, if_neg z]
        exact hrow c (by omega)
  refine g_iconst dX2_unpack_0 ?_
  refine g_istore_n (by decide) dX2_unpack_1 ?_
  refine g_subl [(0, vR 37), (1, vI (pkl 16 f n : Int)), (2, vI ((0 : Nat) : Int))] rfl ?_
  exact loop 0 (by omega) X (fun _ _ _ => rfl) (fun c hc => by omega)
set_option maxRecDepth 100000 in
set_option maxHeartbeats 4000000 in
theorem ct_X2_letUWin {l : Launch} {g : Geo} {X : Mm} {K : AV → Mm → Prop} {n : Nat} {f : Nat → Nat} (hn : X 37 0 = (n : Int)) (hn6 : 2 ≤ n ∧ n ≤ 6) (hf : Perm f n) (hr : Rw X 40 n f) (hne : f (n - 1) ≠ n - 1) (hk : ∀ X2, (∀ d j, d ≠ 41 → X2 d j = X d j) → Rw X2 41 n (uW n f) → K (vI 0) X2) : Ct l g mX2_letUWin [vR 37] X K := by
  refine enter (by decide) (Nat.le_of_ble_eq_true rfl) (fun κ => ?_)
  obtain ⟨p, ep⟩ : ∃ p, p = posI f (n - 1) n := ⟨_, rfl⟩
  have hps := posI_spec hf (k := n - 1) (by omega)
  have hp1 := last_ne hf (k := n - 1) (by omega) hne
  rw [← ep] at hps hp1
  have hu : ∀ q, uW n f q = if q ≤ p then f q else if q = p + 1 then f (n - 1) else f (q - 1) := fun q => by
    unfold uW brg
    rw [← ep]
  have hlast := hr (n - 1) (by omega)
  have hv8 := hf.1 (n - 1) (by omega)
  have loop : ∀ j, j ≤ n - 1 → ∀ X2, (∀ d q, d ≠ 41 → X2 d q = X d q) → ∀ t : Nat, t = (if j ≤ p then j else j + 1) → Rw X2 41 t (uW n f) → G l g mX2_letUWin κ K 24 [(0, vR 37), (1, vI ((n - 1 : Nat) : Int)), (2, vI (f (n - 1) : Int)), (3, vI (t : Int)), (4, vI (j : Int))] [] X2 := by
    refine upTo (n - 1) ?_
    intro j hj ih X2 hfr t ht hrow
    have z0 : X2 37 0 = (n : Int) := (hfr 37 0 (by decide)).trans hn
    have ht6 : t ≤ n := by split at ht <;> omega
    refine g_iload rfl dX2_letUWin_24 ?_
    refine g_aload_n rfl dX2_letUWin_26 ?_
    refine gf_X2_31 rfl (by first | rfl | assumption) dX2_letUWin_27 ?_
    refine g_iconst dX2_letUWin_30 ?_
    refine g_isub dX2_letUWin_31 ?_
    refine g_icmp_ge (t := 78) dX2_letUWin_32 (by decide) (by first | omega | (simp [st2]; done) | (simp [st2]; omega)) (by first | omega | (simp [st2]; done) | (simp [st2]; omega)) (fun b32 => ?_) (fun b32 => ?_)
    · refine g_return rfl dX2_letUWin_78 ?_
      refine hk X2 hfr (fun c hc => hrow c ?_)
      split at ht <;> omega
    · have ej : X2 40 j = (f j : Int) := (hfr 40 j (by decide)).trans (hr j (by omega))
      have lj := hf.1 j (by omega)
      have ej2 : ∀ w q, st2 X2 41 q w 40 j = (f j : Int) := fun w q => ej
      have htn : t < n := by split at ht <;> omega
      have hut : (X2 40 j : Int) = (uW n f t : Int) := by
        rw [ej, hu]
        split at ht
        · rw [if_pos (by omega), ht]
        · rw [if_neg (by omega), if_neg (by omega), ht]
          rfl
      refine g_aload_n rfl dX2_letUWin_35 ?_
      refine gf_X2_22 (c2 := 41) rfl rfl (by first | rfl | assumption) dX2_letUWin_36 ?_
      refine g_iload_n rfl dX2_letUWin_39 ?_
      refine g_aload_n rfl dX2_letUWin_40 ?_
      refine gf_X2_19 (c2 := 40) rfl rfl (by first | rfl | assumption) dX2_letUWin_41 ?_
      refine g_iload rfl dX2_letUWin_44 ?_
      refine g_iald (n := 6) (_) (by first | rfl | assumption) (by first | rfl | assumption) rfl (by first | omega | (simp [st2]; done) | (simp [st2]; omega)) (by first | omega | (simp [st2]; done) | (simp [st2]; omega)) dX2_letUWin_46 ?_
      refine g_iast (n := 6) (_) (by first | rfl | assumption) (by first | rfl | assumption) rfl (by first | omega | (simp [st2]; done) | (simp [st2]; omega)) (by first | omega | (simp [st2]; done) | (simp [st2]; omega)) dX2_letUWin_47 ?_
      refine g_iinc rfl (by decide) dX2_letUWin_48 ?_
      refine g_aload_n rfl dX2_letUWin_51 ?_
      refine gf_X2_19 (c2 := 40) rfl rfl (by first | rfl | assumption) dX2_letUWin_52 ?_
      refine g_iload rfl dX2_letUWin_55 ?_
      refine g_iald (n := 6) (_) (by first | rfl | assumption) (by first | rfl | assumption) rfl (by first | omega | (simp [st2]; done) | (simp [st2]; omega)) (by first | omega | (simp [st2]; done) | (simp [st2]; omega)) dX2_letUWin_57 ?_
      rw [ej2]
      refine g_iload_n rfl dX2_letUWin_58 ?_
      refine g_icmp_ne (t := 72) dX2_letUWin_59 (by decide) (by first | omega | (simp [st2]; done) | (simp [st2]; omega)) (by first | omega | (simp [st2]; done) | (simp [st2]; omega)) (fun b59 => ?_) (fun b59 => ?_)
      · have hjp : j ≠ p := fun z => by rw [z] at b59; omega
        refine g_iinc rfl (by decide) dX2_letUWin_72 ?_
        refine g_goto (t := 24) dX2_letUWin_75 (by decide) ?_
        first
          | (refine g_subl [(0, vR 37), (1, vI ((n - 1 : Nat) : Int)), (2, vI (f (n - 1) : Int)), (3, vI ((t + 1 : Nat) : Int)), (4, vI ((j + 1 : Nat) : Int))] rfl ?_
             refine ih (j + 1) (by omega) (by omega) _ (fun d q hd => by simp only [st2, if_neg hd]; exact hfr d q hd) (t + 1) (by split at ht <;> split <;> omega) (fun c hc => ?_)
             by_cases z : c = t
             · subst z
               simp only [st2, if_true]
               exact hut
             · simp only [st2, if_true, if_neg z]
               exact hrow c (by omega))
          | (refine g_subl [(0, vR 37), (1, vI ((n - 1 : Nat) : Int)), (2, vI (f (n - 1) : Int)), (3, vI ((t + 1 + 1 : Nat) : Int)), (4, vI ((j + 1 : Nat) : Int))] rfl ?_
             refine ih (j + 1) (by omega) (by omega) _ (fun d q hd => by simp only [st2, if_neg hd]; exact hfr d q hd) (t + 1 + 1) (by split at ht <;> split <;> omega) (fun c hc => ?_)
             by_cases z : c = t
             · subst z
               have z2 : c ≠ c + 1 := by omega
               simp only [st2, if_true, if_neg z2]
               exact hut
             · by_cases z2 : c = t + 1
               · subst z2
                 simp only [st2, if_true]
                 exact hut2
               · simp only [st2, if_true, if_neg z, if_neg z2]
                 exact hrow c (by omega))
      · have hjp : j = p := hf.2 j p (by omega) hps.1 (by omega)
        have htp : t + 1 < n := by split at ht <;> omega
        have hut2 : (f (n - 1) : Int) = (uW n f (t + 1) : Int) := by
          rw [hu, if_neg (by split at ht <;> omega), if_pos (by split at ht <;> omega)]
        refine g_aload_n rfl dX2_letUWin_62 ?_
        refine gf_X2_22 (c2 := 41) rfl rfl (by first | rfl | assumption) dX2_letUWin_63 ?_
        refine g_iload_n rfl dX2_letUWin_66 ?_
        refine g_iload_n rfl dX2_letUWin_67 ?_
        refine g_iast (n := 6) (t + 1) (by first | rfl | assumption) (by first | rfl | assumption) (by omega) (by first | omega | (simp [st2]; done) | (simp [st2]; omega)) (by first | omega | (simp [st2]; done) | (simp [st2]; omega)) dX2_letUWin_68 ?_
        refine g_iinc rfl (by decide) dX2_letUWin_69 ?_
        refine g_iinc rfl (by decide) dX2_letUWin_72 ?_
        refine g_goto (t := 24) dX2_letUWin_75 (by decide) ?_
        first
          | (refine g_subl [(0, vR 37), (1, vI ((n - 1 : Nat) : Int)), (2, vI (f (n - 1) : Int)), (3, vI ((t + 1 : Nat) : Int)), (4, vI ((j + 1 : Nat) : Int))] rfl ?_
             refine ih (j + 1) (by omega) (by omega) _ (fun d q hd => by simp only [st2, if_neg hd]; exact hfr d q hd) (t + 1) (by split at ht <;> split <;> omega) (fun c hc => ?_)
             by_cases z : c = t
             · subst z
               simp only [st2, if_true]
               exact hut
             · simp only [st2, if_true, if_neg z]
               exact hrow c (by omega))
          | (refine g_subl [(0, vR 37), (1, vI ((n - 1 : Nat) : Int)), (2, vI (f (n - 1) : Int)), (3, vI ((t + 1 + 1 : Nat) : Int)), (4, vI ((j + 1 : Nat) : Int))] rfl ?_
             refine ih (j + 1) (by omega) (by omega) _ (fun d q hd => by simp only [st2, if_neg hd]; exact hfr d q hd) (t + 1 + 1) (by split at ht <;> split <;> omega) (fun c hc => ?_)
             by_cases z : c = t
             · subst z
               have z2 : c ≠ c + 1 := by omega
               simp only [st2, if_true, if_neg z2]
               exact hut
             · by_cases z2 : c = t + 1
               · subst z2
                 simp only [st2, if_true]
                 exact hut2
               · simp only [st2, if_true, if_neg z, if_neg z2]
                 exact hrow c (by omega))
  refine g_aload_n rfl dX2_letUWin_0 ?_
  refine gf_X2_31 rfl (by first | rfl | assumption) dX2_letUWin_1 ?_
  refine g_iconst dX2_letUWin_4 ?_
  refine g_isub dX2_letUWin_5 ?_
  refine g_istore_n (by decide) dX2_letUWin_6 ?_
  refine g_aload_n rfl dX2_letUWin_7 ?_
  refine gf_X2_19 (c2 := 40) rfl rfl (by first | rfl | assumption) dX2_letUWin_8 ?_
  refine g_aload_n rfl dX2_letUWin_11 ?_
  refine gf_X2_31 rfl (by first | rfl | assumption) dX2_letUWin_12 ?_
  refine g_iconst dX2_letUWin_15 ?_
  refine g_isub dX2_letUWin_16 ?_
  refine g_iald (n := 6) (n - 1) (by first | rfl | assumption) (by first | rfl | assumption) (by omega) (by first | omega | (simp [st2]; done) | (simp [st2]; omega)) (by first | omega | (simp [st2]; done) | (simp [st2]; omega)) dX2_letUWin_17 ?_
  rw [hlast]
  refine g_istore_n (by decide) dX2_letUWin_18 ?_
  refine g_iconst dX2_letUWin_19 ?_
  refine g_istore_n (by decide) dX2_letUWin_20 ?_
  refine g_iconst dX2_letUWin_21 ?_
  refine g_istore (by decide) dX2_letUWin_22 ?_
  refine g_subl [(0, vR 37), (1, vI ((n - 1 : Nat) : Int)), (2, vI (f (n - 1) : Int)), (3, vI ((0 : Nat) : Int)), (4, vI ((0 : Nat) : Int))] (by rw [show ((n - 1 : Nat) : Int) = X 37 0 - 1 by omega]; rfl) ?_
  exact loop 0 (by omega) X (fun _ _ _ => rfl) 0 (by rw [if_pos (by omega)]) (fun c hc => by omega)
set_option maxRecDepth 100000 in
set_option maxHeartbeats 4000000 in
theorem ct_X2_letVWin {l : Launch} {g : Geo} {X : Mm} {K : AV → Mm → Prop} {n : Nat} {f : Nat → Nat} (hn : X 37 0 = (n : Int)) (hn6 : 2 ≤ n ∧ n ≤ 6) (hf : Perm f n) (hr : Rw X 40 n f) (hk : ∀ X2, (∀ d j, d ≠ 41 → X2 d j = X d j) → Rw X2 41 n (vW n f) → K (vI 0) X2) : Ct l g mX2_letVWin [vR 37] X K := by
  refine enter (by decide) (Nat.le_of_ble_eq_true rfl) (fun κ => ?_)
  have hlast := hr (n - 1) (by omega)
  have hv8 := hf.1 (n - 1) (by omega)
  have loop : ∀ j, j ≤ n → ∀ X2, (∀ d q, d ≠ 41 → X2 d q = X d q) → Rw X2 41 j (vW n f) → G l g mX2_letVWin κ K 21 [(0, vR 37), (1, vI ((n - 1 : Nat) : Int)), (2, vI (f (n - 1) : Int)), (3, vI (j : Int))] [] X2 := by
    refine upTo n ?_
    intro j hj ih X2 hfr hrow
    have z0 : X2 37 0 = (n : Int) := (hfr 37 0 (by decide)).trans hn
    have next : j < n → ∀ w : Int, w = (vW n f j : Int) → Rw (st2 X2 41 j w) 41 (j + 1) (vW n f) := by
      intro hjn w hw c hc
      by_cases z : c = j
      · subst z
        simp only [st2, if_true]
        exact hw
      · simp only [st2, if_true, if_neg z]
        exact hrow c (by omega)
    have hvw : vW n f j = if f j ≤ f (n - 1) then f j else if f j = n - 1 then f (n - 1) + 1 else f j + 1 := rfl
    refine g_iload_n rfl dX2_letVWin_21 ?_
    refine g_aload_n rfl dX2_letVWin_22 ?_
    refine gf_X2_31 rfl (by first | rfl | assumption) dX2_letVWin_23 ?_
    refine g_icmp_ge (t := 76) dX2_letVWin_26 (by decide) (by first | omega | (simp [st2]; done) | (simp [st2]; omega)) (by first | omega | (simp [st2]; done) | (simp [st2]; omega)) (fun b26 => ?_) (fun b26 => ?_)
    · refine g_return rfl dX2_letVWin_76 ?_
      obtain rfl : j = n := by omega
      exact hk X2 hfr hrow
    · have ej : X2 40 j = (f j : Int) := (hfr 40 j (by decide)).trans (hr j (by omega))
      have lj := hf.1 j (by omega)
      refine g_aload_n rfl dX2_letVWin_29 ?_
      refine gf_X2_19 (c2 := 40) rfl rfl (by first | rfl | assumption) dX2_letVWin_30 ?_
      refine g_iload_n rfl dX2_letVWin_33 ?_
      refine g_iald (n := 6) (_) (by first | rfl | assumption) (by first | rfl | assumption) rfl (by first | omega | (simp [st2]; done) | (simp [st2]; omega)) (by first | omega | (simp [st2]; done) | (simp [st2]; omega)) dX2_letVWin_34 ?_
      rw [ej]
      refine g_istore (by decide) dX2_letVWin_35 ?_
      refine g_aload_n rfl dX2_letVWin_37 ?_
      refine gf_X2_22 (c2 := 41) rfl rfl (by first | rfl | assumption) dX2_letVWin_38 ?_
      refine g_iload_n rfl dX2_letVWin_41 ?_
      refine g_iload rfl dX2_letVWin_42 ?_
      refine g_iload_n rfl dX2_letVWin_44 ?_
      refine g_icmp_gt (t := 53) dX2_letVWin_45 (by decide) (by first | omega | (simp [st2]; done) | (simp [st2]; omega)) (by first | omega | (simp [st2]; done) | (simp [st2]; omega)) (fun b45 => ?_) (fun b45 => ?_)
      · refine g_iload rfl dX2_letVWin_53 ?_
        refine g_iload_n rfl dX2_letVWin_55 ?_
        refine g_icmp_ne (t := 65) dX2_letVWin_56 (by decide) (by first | omega | (simp [st2]; done) | (simp [st2]; omega)) (by first | omega | (simp [st2]; done) | (simp [st2]; omega)) (fun b56 => ?_) (fun b56 => ?_)
        · refine g_iload rfl dX2_letVWin_65 ?_
          refine g_iconst dX2_letVWin_67 ?_
          refine g_iadd dX2_letVWin_68 ?_
          refine g_iast (n := 6) (_) (by first | rfl | assumption) (by first | rfl | assumption) rfl (by first | omega | (simp [st2]; done) | (simp [st2]; omega)) (by first | omega | (simp [st2]; done) | (simp [st2]; omega)) dX2_letVWin_69 ?_
          refine g_iinc rfl (by decide) dX2_letVWin_70 ?_
          refine g_goto (t := 21) dX2_letVWin_73 (by decide) ?_
          refine g_subl [(0, vR 37), (1, vI ((n - 1 : Nat) : Int)), (2, vI (f (n - 1) : Int)), (3, vI ((j + 1 : Nat) : Int))] rfl ?_
          refine ih (j + 1) (by omega) (by omega) _ (fun d q hd => by simp only [st2, if_neg hd]; exact hfr d q hd) (next (by omega) _ ?_)
          rw [hvw]
          repeat' split
          all_goals omega
        · refine g_iload_n rfl dX2_letVWin_59 ?_
          refine g_iconst dX2_letVWin_60 ?_
          refine g_iadd dX2_letVWin_61 ?_
          refine g_goto (t := 69) dX2_letVWin_62 (by decide) ?_
          refine g_iast (n := 6) (_) (by first | rfl | assumption) (by first | rfl | assumption) rfl (by first | omega | (simp [st2]; done) | (simp [st2]; omega)) (by first | omega | (simp [st2]; done) | (simp [st2]; omega)) dX2_letVWin_69 ?_
          refine g_iinc rfl (by decide) dX2_letVWin_70 ?_
          refine g_goto (t := 21) dX2_letVWin_73 (by decide) ?_
          refine g_subl [(0, vR 37), (1, vI ((n - 1 : Nat) : Int)), (2, vI (f (n - 1) : Int)), (3, vI ((j + 1 : Nat) : Int))] rfl ?_
          refine ih (j + 1) (by omega) (by omega) _ (fun d q hd => by simp only [st2, if_neg hd]; exact hfr d q hd) (next (by omega) _ ?_)
          rw [hvw]
          repeat' split
          all_goals omega
      · refine g_iload rfl dX2_letVWin_48 ?_
        refine g_goto (t := 69) dX2_letVWin_50 (by decide) ?_
        refine g_iast (n := 6) (_) (by first | rfl | assumption) (by first | rfl | assumption) rfl (by first | omega | (simp [st2]; done) | (simp [st2]; omega)) (by first | omega | (simp [st2]; done) | (simp [st2]; omega)) dX2_letVWin_69 ?_
        refine g_iinc rfl (by decide) dX2_letVWin_70 ?_
        refine g_goto (t := 21) dX2_letVWin_73 (by decide) ?_
        refine g_subl [(0, vR 37), (1, vI ((n - 1 : Nat) : Int)), (2, vI (f (n - 1) : Int)), (3, vI ((j + 1 : Nat) : Int))] rfl ?_
        refine ih (j + 1) (by omega) (by omega) _ (fun d q hd => by simp only [st2, if_neg hd]; exact hfr d q hd) (next (by omega) _ ?_)
        rw [hvw]
        repeat' split
        all_goals omega
  refine g_aload_n rfl dX2_letVWin_0 ?_
  refine gf_X2_31 rfl (by first | rfl | assumption) dX2_letVWin_1 ?_
  refine g_iconst dX2_letVWin_4 ?_
  refine g_isub dX2_letVWin_5 ?_
  refine g_istore_n (by decide) dX2_letVWin_6 ?_
  refine g_aload_n rfl dX2_letVWin_7 ?_
  refine gf_X2_19 (c2 := 40) rfl rfl (by first | rfl | assumption) dX2_letVWin_8 ?_
  refine g_aload_n rfl dX2_letVWin_11 ?_
  refine gf_X2_31 rfl (by first | rfl | assumption) dX2_letVWin_12 ?_
  refine g_iconst dX2_letVWin_15 ?_
  refine g_isub dX2_letVWin_16 ?_
  refine g_iald (n := 6) (n - 1) (by first | rfl | assumption) (by first | rfl | assumption) (by omega) (by first | omega | (simp [st2]; done) | (simp [st2]; omega)) (by first | omega | (simp [st2]; done) | (simp [st2]; omega)) dX2_letVWin_17 ?_
  rw [hlast]
  refine g_istore_n (by decide) dX2_letVWin_18 ?_
  refine g_iconst dX2_letVWin_19 ?_
  refine g_istore_n (by decide) dX2_letVWin_20 ?_
  refine g_subl [(0, vR 37), (1, vI ((n - 1 : Nat) : Int)), (2, vI (f (n - 1) : Int)), (3, vI ((0 : Nat) : Int))] (by rw [show ((n - 1 : Nat) : Int) = X 37 0 - 1 by omega]; rfl) ?_
  exact loop 0 (by omega) X (fun _ _ _ => rfl) (fun c hc => by omega)
