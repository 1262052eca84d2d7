theorem MvM.fr {X X2 : Mm} {v : Mv} (hX : MvM X v) (h0 : X2 44 0 = X 44 0) (h5 : X2 44 5 = X 44 5) (hf : ∀ d j, 48 ≤ d → d ≤ 52 → X2 d j = X d j) : MvM X2 v := by
  obtain ⟨h1, h2, h3, h4⟩ := hX
  refine ⟨?_, ?_, fun k hk => ?_, fun i j hi hj => ?_⟩
  · rw [h5]; exact h1
  · rw [h0]; exact h2
  · rw [hf 48 k (by omega) (by omega), hf 49 k (by omega) (by omega), hf 50 k (by omega) (by omega), hf 51 k (by omega) (by omega)]; exact h3 k hk
  · rw [hf 52 _ (by omega) (by omega)]; exact h4 i j hi hj
set_option maxRecDepth 100000 in
set_option maxHeartbeats 4000000 in
theorem ct_X8_numbered {l : Launch} {g : Geo} {X : Mm} {K : AV → Mm → Prop} {n : Nat} {f h : Nat → Nat} (hn : X 44 5 = (n : Int)) (hn6 : 2 ≤ n ∧ n ≤ 6) (hf : Perm f n) (hh : ∀ j, j < n → h j < n) (rf : Rw X 67 n f) (rh : Rw X 68 n h) (hk : K (vI (pkl 8 (fun j => posI f (h j) n) n : Int)) X) : Ct l g mX8_numbered [vR 44] X K := by
  refine enter (by decide) (Nat.le_of_ble_eq_true rfl) (fun κ => ?_)
  have loop : ∀ d, d ≤ n → ∀ w : Nat, w * 8 ^ (n - d) + pkl 8 (fun j => posI f (h j) n) (n - d) = pkl 8 (fun j => posI f (h j) n) n → G l g mX8_numbered κ K 9 [(0, vR 44), (1, vI (w : Int)), (2, vI ((n : Int) - 1 - (d : Int)))] [] X := by
    refine upTo n ?_
    intro d hd ih w hw
    have inner : d < n → ∀ k, k ≤ n → posI f (h (n - 1 - d)) n = srch (fun i => f i == h (n - 1 - d)) k n → G l g mX8_numbered κ K 15 [(0, vR 44), (1, vI (w : Int)), (2, vI ((n : Int) - 1 - (d : Int))), (3, vI (k : Int))] [] X := by
      intro hdn
      have eh := rh (n - 1 - d) (by omega)
      have lh := hh (n - 1 - d) (by omega)
      have hsp := posI_spec hf lh
      refine upTo n ?_
      intro k hk2 ih2 hs
      have hkn : k < n := by
        rcases Nat.lt_or_ge k n with z | z
        · exact z
        · rw [srch_end z] at hs
          omega
      have ek := rf k hkn
      have lk := hf.1 k hkn
      refine g_aload_n rfl dX8_numbered_15 ?_
      refine gf_X8_78 (c2 := 67) rfl rfl (by first | rfl | assumption) dX8_numbered_16 ?_
      refine g_iload_n rfl dX8_numbered_19 ?_
      refine g_iald (n := 8) (_) (by first | rfl | assumption) (by first | rfl | assumption) rfl (by first | omega | (simp [st2]; done) | (simp [st2]; omega)) (by first | omega | (simp [st2]; done) | (simp [st2]; omega)) dX8_numbered_20 ?_
      refine g_aload_n rfl dX8_numbered_21 ?_
      refine gf_X8_81 (c2 := 68) rfl rfl (by first | rfl | assumption) dX8_numbered_22 ?_
      refine g_iload_n rfl dX8_numbered_25 ?_
      refine g_iald (n := 8) (n - 1 - d) (by first | rfl | assumption) (by first | rfl | assumption) (by omega) (by first | omega | (simp [st2]; done) | (simp [st2]; omega)) (by first | omega | (simp [st2]; done) | (simp [st2]; omega)) dX8_numbered_26 ?_
      refine g_icmp_eq (t := 36) dX8_numbered_27 (by decide) (by first | omega | (simp [st2]; done) | (simp [st2]; omega)) (by first | omega | (simp [st2]; done) | (simp [st2]; omega)) (fun b27 => ?_) (fun b27 => ?_)
      · have hq : (fun i => f i == h (n - 1 - d)) k = true := by
          simp only [beq_iff_eq]
          omega
        rw [srch_hit (p := fun i => f i == h (n - 1 - d)) hkn hq] at hs
        refine g_bipush (by decide) dX8_numbered_36 ?_
        refine g_iload_n rfl dX8_numbered_38 ?_
        refine g_imul dX8_numbered_39 ?_
        refine g_iload_n rfl dX8_numbered_40 ?_
        refine g_iadd dX8_numbered_41 ?_
        refine g_istore_n (by decide) dX8_numbered_42 ?_
        refine g_iinc rfl (by decide) dX8_numbered_43 ?_
        refine g_goto (t := 9) dX8_numbered_46 (by decide) ?_
        refine g_subl [(0, vR 44), (1, vI ((8 * w + k : Nat) : Int)), (2, vI ((n : Int) - 1 - ((d + 1 : Nat) : Int)))] ?_ ?_
        · rw [show ((8 * w + k : Nat) : Int) = 8 * (w : Int) + (k : Int) by omega, show (n : Int) - 1 - ((d + 1 : Nat) : Int) = (n : Int) - 1 - (d : Int) + (-1) by omega]
          rfl
        · refine ih (d + 1) (by omega) (by omega) _ ?_
          rw [show n - d = (n - (d + 1)) + 1 by omega, pkl, Nat.pow_succ] at hw
          rw [show posI f (h (n - (d + 1))) n = k by rw [show n - (d + 1) = n - 1 - d by omega]; exact hs] at hw
          rw [← hw, Nat.add_mul, Nat.mul_comm 8 w, Nat.mul_assoc, Nat.mul_comm 8 (8 ^ _)]
          omega
      · have hq : ¬ (fun i => f i == h (n - 1 - d)) k = true := by
          simp only [beq_iff_eq]
          omega
        rw [srch_miss (p := fun i => f i == h (n - 1 - d)) hkn hq] at hs
        refine g_iinc rfl (by decide) dX8_numbered_30 ?_
        refine g_goto (t := 15) dX8_numbered_33 (by decide) ?_
        refine g_subl [(0, vR 44), (1, vI (w : Int)), (2, vI ((n : Int) - 1 - (d : Int))), (3, vI ((k + 1 : Nat) : Int))] rfl ?_
        exact ih2 (k + 1) (by omega) (by omega) hs
    refine g_iload_n rfl dX8_numbered_9 ?_
    refine g_if_lt (t := 49) dX8_numbered_10 (by decide) (by first | omega | (simp [st2]; done) | (simp [st2]; omega)) (fun b10 => ?_) (fun b10 => ?_)
    · refine g_iload_n rfl dX8_numbered_49 ?_
      refine g_ireturn rfl dX8_numbered_50 ?_
      have e : n - d = 0 := by omega
      rw [e, pkl, Nat.pow_zero, Nat.mul_one, Nat.add_zero] at hw
      rw [hw]
      exact hk
    · refine g_iconst dX8_numbered_13 ?_
      refine g_istore_n (by decide) dX8_numbered_14 ?_
      refine g_subl [(0, vR 44), (1, vI (w : Int)), (2, vI ((n : Int) - 1 - (d : Int))), (3, vI ((0 : Nat) : Int))] rfl ?_
      exact inner (by omega) 0 (by omega) rfl
  refine g_iconst dX8_numbered_0 ?_
  refine g_istore_n (by decide) dX8_numbered_1 ?_
  refine g_aload_n rfl dX8_numbered_2 ?_
  refine gf_X8_94 rfl (by first | rfl | assumption) dX8_numbered_3 ?_
  refine g_iconst dX8_numbered_6 ?_
  refine g_isub dX8_numbered_7 ?_
  refine g_istore_n (by decide) dX8_numbered_8 ?_
  refine g_subl [(0, vR 44), (1, vI ((0 : Nat) : Int)), (2, vI ((n : Int) - 1 - ((0 : Nat) : Int)))] (by rw [show (n : Int) - 1 - ((0 : Nat) : Int) = X 44 5 - 1 by omega]; rfl) ?_
  exact loop 0 (by omega) 0 (by simp)
def NSt (X : Mm) (n : Nat) (S : Ol) : Prop := X 44 35 = (S.2 : Int) ∧ ∀ i, i < S.2 → X 66 i = (pkl 8 (S.1 i) n : Int)
theorem pkl_n8 {f : Nat → Nat} {n : Nat} (hn : n ≤ 6) (hl : ∀ j, j < n → f j < n) : pkl 8 f n < 262144 := by
  have h1 := pkl_lt (b := 8) (f := f) n (fun j hj => by have := hl j hj; omega)
  have h2 : (8 : Nat) ^ n ≤ 8 ^ 6 := Nat.pow_le_pow_right (by decide) hn
  omega
theorem NSt.add {X : Mm} {n : Nat} {S : Ol} {f : Nat → Nat} (h : NSt X n S) (hq : ¬ hasB n S.1 S.2 f = true) : NSt (st2 (st2 X 66 S.2 (pkl 8 f n : Int)) 44 35 ((S.2 : Int) + 1)) n (tk n S f) := by
  obtain ⟨h2, h3⟩ := h
  have e : tk n S f = (fun i => if i = S.2 then f else S.1 i, S.2 + 1) := if_neg hq
  rw [e]
  refine ⟨rfl, fun i hi => ?_⟩
  have hi2 : i < S.2 + 1 := hi
  by_cases z : i = S.2
  · subst z
    simp [st2]
  · simp [st2, z]
    exact h3 i (by omega)
theorem hasB_mono {n c d : Nat} {L : Nat → Nat → Nat} {f : Nat → Nat} (h : c ≤ d) (hh : hasB n L c f = true) : hasB n L d f = true := by
  rw [hasB_iff] at hh ⊢
  obtain ⟨i, hi, e⟩ := hh
  exact ⟨i, by omega, e⟩
set_option maxRecDepth 100000 in
set_option maxHeartbeats 4000000 in
theorem ct_X8_notes {l : Launch} {g : Geo} {X : Mm} {K : AV → Mm → Prop} {n : Nat} {f : Nat → Nat} {S : Ol} (hS : NSt X n S) (hn6 : 2 ≤ n ∧ n ≤ 6) (hG : GdO n S) (hf : Perm f n) (hk : ∀ X2, (∀ d j, d ≠ 66 → ¬ (d = 44 ∧ j = 35) → X2 d j = X d j) → NSt X2 n (tk n S f) → K (vI 0) X2) : Ct l g mX8_notes [vR 44, vI (pkl 8 f n : Int)] X K := by
  refine enter (by decide) (Nat.le_of_ble_eq_true rfl) (fun κ => ?_)
  have h1 : X 44 35 = (S.2 : Int) := hS.1
  have hle := hG.le hn6
  have hpf := pkl_n8 hn6.2 hf.1
  have loop : ∀ i, i ≤ S.2 → ¬ hasB n S.1 i f = true → G l g mX8_notes κ K 2 [(0, vR 44), (1, vI (pkl 8 f n : Int)), (2, vI (i : Int))] [] X := by
    refine upTo S.2 ?_
    intro i hi ih hnh
    refine g_iload_n rfl dX8_notes_2 ?_
    refine g_aload_n rfl dX8_notes_3 ?_
    refine gf_X8_200 rfl (by first | rfl | assumption) dX8_notes_4 ?_
    refine g_icmp_ge (t := 27) dX8_notes_7 (by decide) (by first | omega | (simp [st2]; done) | (simp [st2]; omega)) (by first | omega | (simp [st2]; done) | (simp [st2]; omega)) (fun b7 => ?_) (fun b7 => ?_)
    · obtain rfl : i = S.2 := by omega
      have hle2 := (hG.tkk hf).le hn6
      have ht2 : (tk n S f).2 = S.2 + 1 := by
        unfold tk
        rw [if_neg hnh]
      rw [ht2] at hle2
      refine g_aload_n rfl dX8_notes_27 ?_
      refine gf_X8_75 (c2 := 66) rfl rfl (by first | rfl | assumption) dX8_notes_28 ?_
      refine g_aload_n rfl dX8_notes_31 ?_
      refine gf_X8_200 rfl (by first | rfl | assumption) dX8_notes_32 ?_
      refine g_iload_n rfl dX8_notes_35 ?_
      refine g_iast (n := 800) (S.2) (by first | rfl | assumption) (by first | rfl | assumption) (by omega) (by first | omega | (simp [st2]; done) | (simp [st2]; omega)) (by first | omega | (simp [st2]; done) | (simp [st2]; omega)) dX8_notes_36 ?_
      refine g_aload_n rfl dX8_notes_37 ?_
      refine g_dup rfl dX8_notes_38 ?_
      refine gf_X8_200 rfl (by first | rfl | assumption) dX8_notes_39 ?_
      rw [show st2 X 66 S.2 (pkl 8 f n : Int) 44 35 = (S.2 : Int) from h1]
      refine g_iconst dX8_notes_42 ?_
      refine g_iadd dX8_notes_43 ?_
      refine pf_X8_200 rfl (by first | rfl | assumption) dX8_notes_44 ?_
      refine g_return rfl dX8_notes_47 ?_
      refine hk _ (fun d j z1 z2 => ?_) (hS.add hnh)
      by_cases z : d = 44
      · have z3 : j ≠ 35 := fun w => z2 ⟨z, w⟩
        subst z
        simp [st2, z3]
      · simp only [st2, if_neg z, if_neg z1]
    · have ei := hS.2 i (by omega)
      have hPi := hG.1 i (by omega)
      have hpi := pkl_n8 hn6.2 hPi.1
      refine g_aload_n rfl dX8_notes_10 ?_
      refine gf_X8_75 (c2 := 66) rfl rfl (by first | rfl | assumption) dX8_notes_11 ?_
      refine g_iload_n rfl dX8_notes_14 ?_
      refine g_iald (n := 800) (_) (by first | rfl | assumption) (by first | rfl | assumption) rfl (by first | omega | (simp [st2]; done) | (simp [st2]; omega)) (by first | omega | (simp [st2]; done) | (simp [st2]; omega)) dX8_notes_15 ?_
      refine g_iload_n rfl dX8_notes_16 ?_
      refine g_icmp_ne (t := 21) dX8_notes_17 (by decide) (by first | omega | (simp [st2]; done) | (simp [st2]; omega)) (by first | omega | (simp [st2]; done) | (simp [st2]; omega)) (fun b17 => ?_) (fun b17 => ?_)
      · have hne : ¬ hasB n S.1 (i + 1) f = true := by
          rw [hasB, Bool.or_eq_true, sameB_iff]
          rintro (z | z)
          · exact hnh z
          · exact b17 (by rw [ei, pkl_cong n z])
        refine g_iinc rfl (by decide) dX8_notes_21 ?_
        refine g_goto (t := 2) dX8_notes_24 (by decide) ?_
        refine g_subl [(0, vR 44), (1, vI (pkl 8 f n : Int)), (2, vI ((i + 1 : Nat) : Int))] rfl ?_
        exact ih (i + 1) (by omega) (by omega) hne
      · have he : pkl 8 (S.1 i) n = pkl 8 f n := by omega
        have hq : hasB n S.1 S.2 f = true := (hasB_iff _ _ _ _).mpr ⟨i, by omega, pkl_inj (b := 8) (by decide) (fun j hj => by have := hPi.1 j hj; omega) (fun j hj => by have := hf.1 j hj; omega) he⟩
        refine g_return rfl dX8_notes_20 ?_
        refine hk X (fun _ _ _ _ => rfl) ?_
        unfold tk
        rw [if_pos hq]
        exact hS
  refine g_iconst dX8_notes_0 ?_
  refine g_istore_n (by decide) dX8_notes_1 ?_
  refine g_subl [(0, vR 44), (1, vI (pkl 8 f n : Int)), (2, vI ((0 : Nat) : Int))] rfl ?_
  exact loop 0 (by omega) (by simp [hasB])
set_option maxRecDepth 100000 in
theorem ct_X8_takes {l : Launch} {g : Geo} {X : Mm} {K : AV → Mm → Prop} {n : Nat} {f : Nat → Nat} (hn : X 44 5 = (n : Int)) (hn6 : 2 ≤ n ∧ n ≤ 6) (hl : ∀ j, j < n → f j < n) (hk : ∀ X2, (∀ d j, d ≠ 67 → d ≠ 68 → X2 d j = X d j) → Rw X2 67 n (fun k => k) → Rw X2 68 n f → K (vI 0) X2) : Ct l g mX8_takes [vR 44, vI (pkl 8 f n : Int)] X K := by
  refine enter (by decide) (Nat.le_of_ble_eq_true rfl) (fun κ => ?_)
  have hp := pkl_n8 hn6.2 hl
  have loop : ∀ i, i ≤ n → ∀ X2, (∀ d j, d ≠ 67 → d ≠ 68 → X2 d j = X d j) → Rw X2 67 i (fun k => k) → Rw X2 68 i f → G l g mX8_takes κ K 2 [(0, vR 44), (1, vI (pkl 8 f n : Int)), (2, vI (i : Int))] [] X2 := by
    refine upTo n ?_
    intro i hi ih X2 hfr hrow hrow2
    have z0 : X2 44 5 = (n : Int) := (hfr 44 5 (by decide) (by decide)).trans hn
    refine g_iload_n rfl dX8_takes_2 ?_
    refine g_aload_n rfl dX8_takes_3 ?_
    refine gf_X8_94 rfl (by first | rfl | assumption) dX8_takes_4 ?_
    refine g_icmp_ge (t := 37) dX8_takes_7 (by decide) (by first | omega | (simp [st2]; done) | (simp [st2]; omega)) (by first | omega | (simp [st2]; done) | (simp [st2]; omega)) (fun b7 => ?_) (fun b7 => ?_)
    · refine g_return rfl dX8_takes_37 ?_
      obtain rfl : i = n := by omega
      exact hk X2 hfr hrow hrow2
    · refine g_aload_n rfl dX8_takes_10 ?_
      refine gf_X8_78 (c2 := 67) rfl rfl (by first | rfl | assumption) dX8_takes_11 ?_
      refine g_iload_n rfl dX8_takes_14 ?_
      refine g_iload_n rfl dX8_takes_15 ?_
      refine g_iast (n := 8) (_) (by first | rfl | assumption) (by first | rfl | assumption) rfl (by first | omega | (simp [st2]; done) | (simp [st2]; omega)) (by first | omega | (simp [st2]; done) | (simp [st2]; omega)) dX8_takes_16 ?_
      refine g_aload_n rfl dX8_takes_17 ?_
      refine gf_X8_81 (c2 := 68) rfl rfl (by first | rfl | assumption) dX8_takes_18 ?_
      refine g_iload_n rfl dX8_takes_21 ?_
      refine g_iload_n rfl dX8_takes_22 ?_
      refine g_iconst dX8_takes_23 ?_
      refine g_iload_n rfl dX8_takes_24 ?_
      refine g_imul dX8_takes_25 ?_
      refine g_ishr (3 * i) (by first | omega | (simp [st2]; done) | (simp [st2]; omega)) (by first | omega | (simp [st2]; done) | (simp [st2]; omega)) (by first | omega | (simp [st2]; done) | (simp [st2]; omega)) dX8_takes_26 ?_
      refine g_bipush (by decide) dX8_takes_27 ?_
      refine g_iand (3) (by decide) (by decide) dX8_takes_29 ?_
      refine g_iast (n := 8) (_) (by first | rfl | assumption) (by first | rfl | assumption) rfl (by first | omega | (simp [st2]; done) | (simp [st2]; omega)) (by first | omega | (simp [st2]; done) | (simp [st2]; omega)) dX8_takes_30 ?_
      refine g_iinc rfl (by decide) dX8_takes_31 ?_
      refine g_goto (t := 2) dX8_takes_34 (by decide) ?_
      refine g_subl [(0, vR 44), (1, vI (pkl 8 f n : Int)), (2, vI ((i + 1 : Nat) : Int))] rfl ?_
      refine ih (i + 1) (by omega) (by omega) _ (fun d j hd hd2 => by simp only [st2, if_neg hd, if_neg hd2]; exact hfr d j hd hd2) (fun c hc => ?_) (fun c hc => ?_)
      · by_cases z : c = i
        · subst z
          simp [st2]
        · simp [st2, z]
          exact hrow c (by omega)
      · by_cases z : c = i
        · subst z
          simp only [st2, if_true]
          have h1 := pkl_dig (b := 8) (f := f) (by decide) n (fun j hj => by have := hl j hj; omega) c (by omega)
          rw [show (8 : Nat) ^ c = 2 ^ (3 * c) by rw [Nat.pow_mul]] at h1
          rw [← h1, Int.natCast_emod, Int.natCast_ediv, Int.natCast_pow]
          rfl
        · simp [st2, z]
          exact hrow2 c (by omega)
  refine g_iconst dX8_takes_0 ?_
  refine g_istore_n (by decide) dX8_takes_1 ?_
  refine g_subl [(0, vR 44), (1, vI (pkl 8 f n : Int)), (2, vI ((0 : Nat) : Int))] rfl ?_
  exact loop 0 (by omega) X (fun _ _ _ _ => rfl) (fun c hc => by omega) (fun c hc => by omega)
