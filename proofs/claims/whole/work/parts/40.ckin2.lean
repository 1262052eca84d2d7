def KSt (X : Mm) (n : Nat) (S : Ol) : Prop := X 37 0 = (n : Int) ∧ X 37 1 = (S.2 : Int) ∧ (∀ i, i < S.2 → X 39 i = (pkl 16 (S.1 i) n : Int)) ∧ ∀ r, r < 720 → (X 38 r = 1 ∧ ∃ i, i < S.2 ∧ rkl n (S.1 i) n = r) ∨ (X 38 r = 0 ∧ ¬ ∃ i, i < S.2 ∧ rkl n (S.1 i) n = r)
theorem KSt.fr {X X2 : Mm} {n : Nat} {S : Ol} (h : KSt X n S) (hf : ∀ d j, d ≠ 40 → d ≠ 41 → X2 d j = X d j) : KSt X2 n S := by
  obtain ⟨h1, h2, h3, h4⟩ := h
  refine ⟨?_, ?_, fun i hi => ?_, fun r hr => ?_⟩
  · rw [hf 37 0 (by decide) (by decide)]; exact h1
  · rw [hf 37 1 (by decide) (by decide)]; exact h2
  · rw [hf 39 i (by decide) (by decide)]; exact h3 i hi
  · rw [hf 38 r (by decide) (by decide)]; exact h4 r hr
theorem KSt.add {X : Mm} {n : Nat} {S : Ol} {f : Nat → Nat} (h : KSt X n S) (hq : ¬ hasB n S.1 S.2 f = true) : KSt (st2 (st2 (st2 X 38 (rkl n f n) 1) 39 S.2 (pkl 16 f n : Int)) 37 1 ((S.2 : Int) + 1)) n (tk n S f) := by
  obtain ⟨h1, h2, h3, h4⟩ := h
  have e : tk n S f = (fun i => if i = S.2 then f else S.1 i, S.2 + 1) := if_neg hq
  rw [e]
  refine ⟨h1, rfl, fun i hi => ?_, fun r hr => ?_⟩
  · have hi2 : i < S.2 + 1 := hi
    by_cases z : i = S.2
    · subst z
      simp [st2]
    · simp [st2, z]
      exact h3 i (by omega)
  · by_cases z : r = rkl n f n
    · refine Or.inl ⟨by simp [st2, z], S.2, by simp, ?_⟩
      simp [z]
    · rcases h4 r hr with ⟨a, i, hi, ei⟩ | ⟨a, b⟩
      · refine Or.inl ⟨by simp [st2, z]; exact a, i, by simp; omega, ?_⟩
        have z2 : i ≠ S.2 := by omega
        simp [z2]
        exact ei
      · refine Or.inr ⟨by simp [st2, z]; exact a, ?_⟩
        rintro ⟨i, hi, ei⟩
        have hi2 : i < S.2 + 1 := hi
        by_cases z2 : i = S.2
        · simp only [if_pos z2] at ei
          exact z ei.symm
        · simp only [if_neg z2] at ei
          exact b ⟨i, by omega, ei⟩
set_option maxRecDepth 100000 in
set_option maxHeartbeats 4000000 in
theorem ct_X2_takeNext {l : Launch} {g : Geo} {X : Mm} {K : AV → Mm → Prop} {n : Nat} {f : Nat → Nat} {S : Ol} (hS : KSt X n S) (hn6 : 2 ≤ n ∧ n ≤ 6) (hG : GdO n S) (hf : Perm f n) (hr : Rw X 41 n f) (hk : ∀ X2, (∀ d j, d ≠ 37 → d ≠ 38 → d ≠ 39 → X2 d j = X d j) → KSt X2 n (tk n S f) → K (vI 0) X2) : Ct l g mX2_takeNext [vR 37] X K := by
  refine enter (by decide) (Nat.le_of_ble_eq_true rfl) (fun κ => ?_)
  have hrl := rkl_lt hn6 f n (Nat.le_refl _)
  have h4 := hS.2.2.2 _ hrl
  have hrk := hasB_rk hG hf
  have h1 : X 37 1 = (S.2 : Int) := hS.2.1
  have hrng : X 38 (rkl n f n) = 0 ∨ X 38 (rkl n f n) = 1 := by
    rcases h4 with ⟨a, _⟩ | ⟨a, _⟩
    · exact Or.inr a
    · exact Or.inl a
  refine g_aload_n rfl dX2_takeNext_0 ?_
  refine g_cv0 (M2 := mX2_rankOfNext) (ci := 2) dX2_takeNext_1 ml_RX2_58 kX2_rankOfNext (by decide) (by first | rfl | assumption) (by decide) rfl (by unfold Rm; decide) (Nat.le_of_ble_eq_true rfl) (ct_X2_rankOfNext hS.1 hn6 hr hf.1 ?_)
  refine g_istore_n (by decide) dX2_takeNext_4 ?_
  refine g_aload_n rfl dX2_takeNext_5 ?_
  refine gf_X2_9 (c2 := 38) rfl rfl (by first | rfl | assumption) dX2_takeNext_6 ?_
  refine g_iload_n rfl dX2_takeNext_9 ?_
  refine g_zald (n := 720) (rkl n f n) (by first | rfl | assumption) (by first | rfl | assumption) (by omega) (by first | omega | (simp [st2]; done) | (simp [st2]; omega)) (by first | omega | (simp [st2]; done) | (simp [st2]; omega)) dX2_takeNext_10 ?_
  refine g_if_ne (t := 24) dX2_takeNext_11 (by decide) (by first | omega | (simp [st2]; done) | (simp [st2]; omega)) (fun b11 => ?_) (fun b11 => ?_)
  · have hq : hasB n S.1 S.2 f = true := by
      rw [hrk]
      rcases h4 with ⟨_, a⟩ | ⟨a, _⟩
      · exact a
      · exact absurd a b11
    refine g_return rfl dX2_takeNext_24 ?_
    refine hk X (fun _ _ _ _ _ => rfl) ?_
    unfold tk
    rw [if_pos hq]
    exact hS
  · have hq : ¬ hasB n S.1 S.2 f = true := by
      rw [hrk]
      rcases h4 with ⟨a, _⟩ | ⟨_, a⟩
      · omega
      · exact a
    have hle := (hG.tkk hf).le hn6
    have ht2 : (tk n S f).2 = S.2 + 1 := by
      unfold tk
      rw [if_neg hq]
    rw [ht2] at hle
    refine g_aload_n rfl dX2_takeNext_14 ?_
    refine gf_X2_32 rfl (by first | rfl | assumption) dX2_takeNext_15 ?_
    refine g_sipush (by decide) dX2_takeNext_18 ?_
    refine g_icmp_lt (t := 25) dX2_takeNext_21 (by decide) (by first | omega | (simp [st2]; done) | (simp [st2]; omega)) (by first | omega | (simp [st2]; done) | (simp [st2]; omega)) (fun b21 => ?_) (fun b21 => ?_)
    · refine g_aload_n rfl dX2_takeNext_25 ?_
      refine gf_X2_9 (c2 := 38) rfl rfl (by first | rfl | assumption) dX2_takeNext_26 ?_
      refine g_iload_n rfl dX2_takeNext_29 ?_
      refine g_iconst dX2_takeNext_30 ?_
      refine g_zast (n := 720) (rkl n f n) (by omega) (by first | rfl | assumption) (by first | rfl | assumption) (by omega) (by first | omega | (simp [st2]; done) | (simp [st2]; omega)) (by first | omega | (simp [st2]; done) | (simp [st2]; omega)) dX2_takeNext_31 ?_
      refine g_aload_n rfl dX2_takeNext_32 ?_
      refine gf_X2_15 (c2 := 39) rfl rfl (by first | rfl | assumption) dX2_takeNext_33 ?_
      refine g_aload_n rfl dX2_takeNext_36 ?_
      refine gf_X2_32 rfl (by first | rfl | assumption) dX2_takeNext_37 ?_
      refine g_aload_n rfl dX2_takeNext_40 ?_
      refine g_cv0 (M2 := mX2_packNext) (ci := 2) dX2_takeNext_41 ml_RX2_62 kX2_packNext (by decide) (by first | rfl | assumption) (by decide) rfl (by unfold Rm; decide) (Nat.le_of_ble_eq_true rfl) (ct_X2_packNext (X := st2 X 38 (rkl n f n) 1) hS.1 hn6 hr hf.1 ?_)
      rw [show st2 X 38 (rkl n f n) 1 37 1 = (S.2 : Int) from h1]
      refine g_iast (n := 720) (S.2) (by first | rfl | assumption) (by first | rfl | assumption) (by omega) (by first | omega | (simp [st2]; done) | (simp [st2]; omega)) (by first | omega | (simp [st2]; done) | (simp [st2]; omega)) dX2_takeNext_44 ?_
      refine g_aload_n rfl dX2_takeNext_45 ?_
      refine g_dup rfl dX2_takeNext_46 ?_
      refine gf_X2_32 rfl (by first | rfl | assumption) dX2_takeNext_47 ?_
      rw [show st2 (st2 X 38 (rkl n f n) 1) 39 S.2 (pkl 16 f n : Int) 37 1 = (S.2 : Int) from h1]
      refine g_iconst dX2_takeNext_50 ?_
      refine g_iadd dX2_takeNext_51 ?_
      refine pf_X2_32 rfl (by first | rfl | assumption) dX2_takeNext_52 ?_
      refine g_return rfl dX2_takeNext_55 ?_
      refine hk _ (fun d j z1 z2 z3 => by simp only [st2, if_neg z1, if_neg z2, if_neg z3]) (hS.add hq)
    · exfalso; omega
set_option maxRecDepth 100000 in
set_option maxHeartbeats 4000000 in
theorem ct_X2_countFrom {l : Launch} {g : Geo} {X : Mm} {K : AV → Mm → Prop} {v : Mv} (hX : MvC X 5 v) (hv : Vd v) (hn6 : vn v ≤ 6) (hk : ∀ X2, (∀ d j, (d < 37 ∨ 41 < d) → X2 d j = X d j) → K (vI (kinN v : Int)) X2) : Ct l g mX2_countFrom [vR 37, vR 5] X K := by
  refine enter (by decide) (Nat.le_of_ble_eq_true rfl) (fun κ => ?_)
  have hn2 := hv.1
  have x1 : X 5 0 = (vn v : Int) := hX.1
  have loop2 : ∀ i : Nat, i ≤ 720 → ∀ X2 S, (∀ d j, (d < 37 ∨ 41 < d) → X2 d j = X d j) → KSt X2 (vn v) S → GdO (vn v) S → (bfO (vn v) (721 - i) S i).2 = kinN v → G l g mX2_countFrom κ K 46 [(0, vR 37), (2, vI (i : Int))] [] X2 := by
    refine upTo 720 ?_
    intro i hi ih X2 S hfr hS hG hres
    have hle := hG.le ⟨hn2, hn6⟩
    have z0 : X2 37 0 = (vn v : Int) := hS.1
    have z1 : X2 37 1 = (S.2 : Int) := hS.2.1
    rw [show 721 - i = (720 - i) + 1 by omega, bfO] at hres
    refine g_iload_n rfl dX2_countFrom_46 ?_
    refine g_aload_n rfl dX2_countFrom_47 ?_
    refine gf_X2_32 rfl (by first | rfl | assumption) dX2_countFrom_48 ?_
    refine g_icmp_ge (t := 113) dX2_countFrom_51 (by decide) (by first | omega | (simp [st2]; done) | (simp [st2]; omega)) (by first | omega | (simp [st2]; done) | (simp [st2]; omega)) (fun b51 => ?_) (fun b51 => ?_)
    · rw [if_neg (by omega)] at hres
      refine g_aload_n rfl dX2_countFrom_113 ?_
      refine gf_X2_32 rfl (by first | rfl | assumption) dX2_countFrom_114 ?_
      refine g_ireturn rfl dX2_countFrom_117 ?_
      exact kE (hk X2 hfr) (by omega)
    · have hiS : i < S.2 := by omega
      rw [if_pos hiS] at hres
      have hP := hG.1 i hiS
      have hl1 := hP.1 (vn v - 1) (by omega)
      refine g_iload_n rfl dX2_countFrom_54 ?_
      refine g_sipush (by decide) dX2_countFrom_55 ?_
      refine g_icmp_ge (t := 113) dX2_countFrom_58 (by decide) (by first | omega | (simp [st2]; done) | (simp [st2]; omega)) (by first | omega | (simp [st2]; done) | (simp [st2]; omega)) (fun b58 => ?_) (fun b58 => ?_)
      · exfalso; omega
      · refine g_aload_n rfl dX2_countFrom_61 ?_
        refine g_aload_n rfl dX2_countFrom_62 ?_
        refine gf_X2_15 (c2 := 39) rfl rfl (by first | rfl | assumption) dX2_countFrom_63 ?_
        refine g_iload_n rfl dX2_countFrom_66 ?_
        refine g_iald (n := 720) (_) (by first | rfl | assumption) (by first | rfl | assumption) rfl (by first | omega | (simp [st2]; done) | (simp [st2]; omega)) (by first | omega | (simp [st2]; done) | (simp [st2]; omega)) dX2_countFrom_67 ?_
        rw [hS.2.2.1 i hiS]
        refine g_cv1v (M2 := mX2_unpack) (ci := 2) dX2_countFrom_68 ml_RX2_42 kX2_unpack rfl (by first | rfl | assumption) (by decide) rfl (by unfold Rm; decide) (Nat.le_of_ble_eq_true rfl) (ct_X2_unpack z0 ⟨hn2, hn6⟩ hP.1 (fun X3 f3 r3 => ?_))
        have hS3 : KSt X3 (vn v) S := hS.fr (fun d j a _ => f3 d j a)
        have z03 : X3 37 0 = (vn v : Int) := hS3.1
        have e3 : X3 40 (vn v - 1) = (S.1 i (vn v - 1) : Int) := r3 _ (by omega)
        refine g_aload_n rfl dX2_countFrom_71 ?_
        refine gf_X2_19 (c2 := 40) rfl rfl (by first | rfl | assumption) dX2_countFrom_72 ?_
        refine g_aload_n rfl dX2_countFrom_75 ?_
        refine gf_X2_31 rfl (by first | rfl | assumption) dX2_countFrom_76 ?_
        refine g_iconst dX2_countFrom_79 ?_
        refine g_isub dX2_countFrom_80 ?_
        refine g_iald (n := 6) (vn v - 1) (by first | rfl | assumption) (by first | rfl | assumption) (by omega) (by first | omega | (simp [st2]; done) | (simp [st2]; omega)) (by first | omega | (simp [st2]; done) | (simp [st2]; omega)) dX2_countFrom_81 ?_
        refine g_aload_n rfl dX2_countFrom_82 ?_
        refine gf_X2_31 rfl (by first | rfl | assumption) dX2_countFrom_83 ?_
        refine g_iconst dX2_countFrom_86 ?_
        refine g_isub dX2_countFrom_87 ?_
        refine g_icmp_eq (t := 107) dX2_countFrom_88 (by decide) (by first | omega | (simp [st2]; done) | (simp [st2]; omega)) (by first | omega | (simp [st2]; done) | (simp [st2]; omega)) (fun b88 => ?_) (fun b88 => ?_)
        · have heq : S.1 i (vn v - 1) = vn v - 1 := by omega
          refine g_iinc rfl (by decide) dX2_countFrom_107 ?_
          refine g_goto (t := 46) dX2_countFrom_110 (by decide) ?_
          refine g_subl [(0, vR 37), (2, vI ((i + 1 : Nat) : Int))] rfl ?_
          first
            | (have hex : exO (vn v) S i = S := if_pos heq
               rw [hex] at hres
               refine ih (i + 1) (by omega) (by omega) X3 S (fun d j hd => ?_) hS3 hG (by rw [show 721 - (i + 1) = 720 - i by omega]; exact hres)
               rw [f3 d j (by omega)]
               exact hfr d j hd)
            | (have hex : exO (vn v) S i = tk (vn v) (tk (vn v) S (uW (vn v) (S.1 i))) (vW (vn v) (S.1 i)) := if_neg hne
               rw [hex] at hres
               refine ih (i + 1) (by omega) (by omega) X7 _ (fun d j hd => ?_) hS7 ((hG.tkk hpu).tkk hpv) (by rw [show 721 - (i + 1) = 720 - i by omega]; exact hres)
               rw [f7 d j (by omega) (by omega) (by omega), f6 d j (by omega), f5 d j (by omega) (by omega) (by omega), f4 d j (by omega), f3 d j (by omega)]
               exact hfr d j hd)
        · have hne : S.1 i (vn v - 1) ≠ vn v - 1 := by omega
          have hpu := uW_perm hn2 hP hne
          have hpv := vW_perm hn2 hP hne
          refine g_aload_n rfl dX2_countFrom_91 ?_
          refine g_cv0v (M2 := mX2_letUWin) (ci := 2) dX2_countFrom_92 ml_RX2_46 kX2_letUWin rfl (by first | rfl | assumption) (by decide) rfl (by unfold Rm; decide) (Nat.le_of_ble_eq_true rfl) (ct_X2_letUWin z03 ⟨hn2, hn6⟩ hP r3 hne (fun X4 f4 r4 => ?_))
          have hS4 : KSt X4 (vn v) S := hS3.fr (fun d j _ a => f4 d j a)
          refine g_aload_n rfl dX2_countFrom_95 ?_
          refine g_cv0v (M2 := mX2_takeNext) (ci := 2) dX2_countFrom_96 ml_RX2_39 kX2_takeNext rfl (by first | rfl | assumption) (by decide) rfl (by unfold Rm; decide) (Nat.le_of_ble_eq_true rfl) (ct_X2_takeNext hS4 ⟨hn2, hn6⟩ hG hpu r4 (fun X5 f5 hS5 => ?_))
          have r5 : Rw X5 40 (vn v) (S.1 i) := fun j hj => by
            rw [f5 40 j (by decide) (by decide) (by decide), f4 40 j (by decide)]
            exact r3 j hj
          refine g_aload_n rfl dX2_countFrom_99 ?_
          refine g_cv0v (M2 := mX2_letVWin) (ci := 2) dX2_countFrom_100 ml_RX2_49 kX2_letVWin rfl (by first | rfl | assumption) (by decide) rfl (by unfold Rm; decide) (Nat.le_of_ble_eq_true rfl) (ct_X2_letVWin hS5.1 ⟨hn2, hn6⟩ hP r5 (fun X6 f6 r6 => ?_))
          have hS6 : KSt X6 (vn v) (tk (vn v) S (uW (vn v) (S.1 i))) := hS5.fr (fun d j _ a => f6 d j a)
          refine g_aload_n rfl dX2_countFrom_103 ?_
          refine g_cv0v (M2 := mX2_takeNext) (ci := 2) dX2_countFrom_104 ml_RX2_39 kX2_takeNext rfl (by first | rfl | assumption) (by decide) rfl (by unfold Rm; decide) (Nat.le_of_ble_eq_true rfl) (ct_X2_takeNext hS6 ⟨hn2, hn6⟩ (hG.tkk hpu) hpv r6 (fun X7 f7 hS7 => ?_))
          refine g_iinc rfl (by decide) dX2_countFrom_107 ?_
          refine g_goto (t := 46) dX2_countFrom_110 (by decide) ?_
          refine g_subl [(0, vR 37), (2, vI ((i + 1 : Nat) : Int))] rfl ?_
          first
            | (have hex : exO (vn v) S i = S := if_pos heq
               rw [hex] at hres
               refine ih (i + 1) (by omega) (by omega) X3 S (fun d j hd => ?_) hS3 hG (by rw [show 721 - (i + 1) = 720 - i by omega]; exact hres)
               rw [f3 d j (by omega)]
               exact hfr d j hd)
            | (have hex : exO (vn v) S i = tk (vn v) (tk (vn v) S (uW (vn v) (S.1 i))) (vW (vn v) (S.1 i)) := if_neg hne
               rw [hex] at hres
               refine ih (i + 1) (by omega) (by omega) X7 _ (fun d j hd => ?_) hS7 ((hG.tkk hpu).tkk hpv) (by rw [show 721 - (i + 1) = 720 - i by omega]; exact hres)
               rw [f7 d j (by omega) (by omega) (by omega), f6 d j (by omega), f5 d j (by omega) (by omega) (by omega), f4 d j (by omega), f3 d j (by omega)]
               exact hfr d j hd)
  have loop1 : ∀ i : Nat, i ≤ 720 → ∀ X2, (∀ d j, (d < 37 ∨ 41 < d) → X2 d j = X d j) → X2 37 0 = (vn v : Int) → X2 37 1 = 0 → (∀ r, r < i → X2 38 r = 0) → G l g mX2_countFrom κ K 15 [(0, vR 37), (1, vR 5), (2, vI (i : Int))] [] X2 := by
    refine upTo 720 ?_
    intro i hi ih X2 hfr z0 z1 hz
    refine g_iload_n rfl dX2_countFrom_15 ?_
    refine g_sipush (by decide) dX2_countFrom_16 ?_
    refine g_icmp_ge (t := 35) dX2_countFrom_19 (by decide) (by first | omega | (simp [st2]; done) | (simp [st2]; omega)) (by first | omega | (simp [st2]; done) | (simp [st2]; omega)) (fun b19 => ?_) (fun b19 => ?_)
    · refine g_aload_n rfl dX2_countFrom_35 ?_
      refine g_aload_n rfl dX2_countFrom_36 ?_
      refine g_cv1v (M2 := mX2_nameByPlaceAbove) (ci := 2) dX2_countFrom_37 ml_RX2_35 kX2_nameByPlaceAbove rfl (by first | rfl | assumption) (by decide) rfl (by unfold Rm; decide) (Nat.le_of_ble_eq_true rfl) (ct_X2_nameByPlaceAbove (hX.fr (fun d j h1 h2 => hfr d j (by omega))) hv hn6 z0 (fun X3 f3 r3 => ?_))
      have hS3 : KSt X3 (vn v) (fun _ _ => 0, 0) := ⟨(f3 37 0 (by decide)).trans z0, (f3 37 1 (by decide)).trans z1, fun i hi => absurd hi (Nat.not_lt_zero _), fun r hr => Or.inr ⟨(f3 38 r (by decide)).trans (hz r (by omega)), fun ⟨q, hq, _⟩ => absurd hq (Nat.not_lt_zero _)⟩⟩
      have hG3 : GdO (vn v) (fun _ _ => 0, 0) := ⟨fun i hi => absurd hi (Nat.not_lt_zero _), fun i k _ hk => absurd hk (Nat.not_lt_zero _)⟩
      refine g_aload_n rfl dX2_countFrom_40 ?_
      refine g_cv0v (M2 := mX2_takeNext) (ci := 2) dX2_countFrom_41 ml_RX2_39 kX2_takeNext rfl (by first | rfl | assumption) (by decide) rfl (by unfold Rm; decide) (Nat.le_of_ble_eq_true rfl) (ct_X2_takeNext hS3 ⟨hn2, hn6⟩ hG3 (nmA_perm hv) r3 (fun X4 f4 hS4 => ?_))
      refine g_iconst dX2_countFrom_44 ?_
      refine g_istore_n (by decide) dX2_countFrom_45 ?_
      refine g_subl [(0, vR 37), (2, vI ((0 : Nat) : Int))] rfl ?_
      refine loop2 0 (by omega) X4 _ (fun d j hd => ?_) hS4 (hG3.tkk (nmA_perm hv)) rfl
      rw [f4 d j (by omega) (by omega) (by omega), f3 d j (by omega)]
      exact hfr d j hd
    · refine g_aload_n rfl dX2_countFrom_22 ?_
      refine gf_X2_9 (c2 := 38) rfl rfl (by first | rfl | assumption) dX2_countFrom_23 ?_
      refine g_iload_n rfl dX2_countFrom_26 ?_
      refine g_iconst dX2_countFrom_27 ?_
      refine g_zast (n := 720) (_) (by omega) (by first | rfl | assumption) (by first | rfl | assumption) rfl (by first | omega | (simp [st2]; done) | (simp [st2]; omega)) (by first | omega | (simp [st2]; done) | (simp [st2]; omega)) dX2_countFrom_28 ?_
      refine g_iinc rfl (by decide) dX2_countFrom_29 ?_
      refine g_goto (t := 15) dX2_countFrom_32 (by decide) ?_
      refine g_subl [(0, vR 37), (1, vR 5), (2, vI ((i + 1 : Nat) : Int))] rfl ?_
      refine ih (i + 1) (by omega) (by omega) _ (fun d j hd => ?_) z0 z1 (fun r hr => ?_)
      · have z : d ≠ 38 := by omega
        simp only [st2, if_neg z]
        exact hfr d j hd
      · by_cases z : r = i
        · simp [st2, z]
        · simp [st2, z]
          exact hz r (by omega)
  refine g_aload_n rfl dX2_countFrom_0 ?_
  refine g_aload_n rfl dX2_countFrom_1 ?_
  refine gf_X2_25 rfl (by first | rfl | assumption) dX2_countFrom_2 ?_
  refine pf_X2_31 rfl (by first | rfl | assumption) dX2_countFrom_5 ?_
  refine g_aload_n rfl dX2_countFrom_8 ?_
  refine g_iconst dX2_countFrom_9 ?_
  refine pf_X2_32 rfl (by first | rfl | assumption) dX2_countFrom_10 ?_
  refine g_iconst dX2_countFrom_13 ?_
  refine g_istore_n (by decide) dX2_countFrom_14 ?_
  refine g_subl [(0, vR 37), (1, vR 5), (2, vI ((0 : Nat) : Int))] rfl ?_
  refine loop1 0 (by omega) _ (fun d j hd => ?_) x1 rfl (fun r hr => by omega)
  have z : d ≠ 37 := by omega
  simp only [st2, if_neg z]
theorem ct_X7_classes {l : Launch} {g : Geo} {X : Mm} {K : AV → Mm → Prop} {v : Mv} (hX : MvC X 5 v) (hv : vn v ≠ 0 → Vd v) (h0 : vn v = 0 → K (vI (-1)) X) (h1 : 6 < vn v → K (vI (-2)) X) (h2 : vn v ≠ 0 → vn v ≤ 6 → ∀ X2, (∀ d j, (d < 37 ∨ 41 < d) → X2 d j = X d j) → K (vI (kinN v : Int)) X2) : Ct l g mX7_classes [vR 0] X K := by
  refine enter (by decide) (Nat.le_of_ble_eq_true rfl) (fun κ => ?_)
  have x1 : X 5 0 = (vn v : Int) := hX.1
  have hn8 : vn v ≤ 8 := by
    rcases Nat.eq_zero_or_pos (vn v) with z | z
    · omega
    · exact (hv (by omega)).2.1
  refine g_aload_n rfl dX7_classes_0 ?_
  refine gf_X7_23 (c2 := 5) rfl rfl (by first | rfl | assumption) dX7_classes_1 ?_
  refine gf_X7_74 rfl (by first | rfl | assumption) dX7_classes_4 ?_
  refine g_if_ne (t := 12) dX7_classes_7 (by decide) (by first | omega | (simp [st2]; done) | (simp [st2]; omega)) (fun b7 => ?_) (fun b7 => ?_)
  · refine g_aload_n rfl dX7_classes_12 ?_
    refine gf_X7_23 (c2 := 5) rfl rfl (by first | rfl | assumption) dX7_classes_13 ?_
    refine gf_X7_74 rfl (by first | rfl | assumption) dX7_classes_16 ?_
    refine g_bipush (by decide) dX7_classes_19 ?_
    refine g_icmp_le (t := 27) dX7_classes_21 (by decide) (by first | omega | (simp [st2]; done) | (simp [st2]; omega)) (by first | omega | (simp [st2]; done) | (simp [st2]; omega)) (fun b21 => ?_) (fun b21 => ?_)
    · refine g_aload_n rfl dX7_classes_27 ?_
      refine gf_X7_60 (c2 := 37) rfl rfl (by first | rfl | assumption) dX7_classes_28 ?_
      refine g_aload_n rfl dX7_classes_31 ?_
      refine gf_X7_23 (c2 := 5) rfl rfl (by first | rfl | assumption) dX7_classes_32 ?_
      refine g_cv1 (M2 := mX2_countFrom) (ci := 2) dX7_classes_35 ml_RX7_209 kX2_countFrom (by decide) (by first | rfl | assumption) (by decide) rfl (by unfold Rm; decide) (Nat.le_of_ble_eq_true rfl) (ct_X2_countFrom hX (hv (by omega)) (by omega) (fun X2 f2 => ?_))
      refine g_ireturn rfl dX7_classes_38 ?_
      exact h2 (by omega) (by omega) X2 f2
    · refine g_bipush (by decide) dX7_classes_24 ?_
      refine g_ireturn rfl dX7_classes_26 ?_
      exact h1 (by omega)
  · refine g_iconst dX7_classes_10 ?_
    refine g_ireturn rfl dX7_classes_11 ?_
    exact h0 (by omega)
