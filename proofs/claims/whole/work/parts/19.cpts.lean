theorem WayC.fr {X X2 : Mm} {c : Nat} {v : Mv} {f h : Nat → Nat} (hw : WayC X c v f h) (e : ∀ d k, c ≤ d → d ≤ c + 5 → X2 d k = X d k) : WayC X2 c v f h := by
  obtain ⟨w1, w2, w3, w4⟩ := hw
  refine ⟨by rw [e c 0 (by omega) (by omega)]; exact w1, by rw [e c 1 (by omega) (by omega)]; exact w2, fun j hj => ?_, fun j hj => ?_⟩
  · rw [e (c + 1) _ (by omega) (by omega), e (c + 4) _ (by omega) (by omega), e (c + 5) _ (by omega) (by omega)]
    exact w3 j hj
  · rw [e (c + 2) _ (by omega) (by omega), e (c + 3) _ (by omega) (by omega)]
    exact w4 j hj
theorem MvC.fr {X X2 : Mm} {c : Nat} {v : Mv} (hw : MvC X c v) (e : ∀ d k, c ≤ d → d ≤ c + 5 → X2 d k = X d k) : MvC X2 c v := by
  obtain ⟨w1, w2, w3, w4⟩ := hw
  refine ⟨by rw [e c 0 (by omega) (by omega)]; exact w1, by rw [e c 1 (by omega) (by omega)]; exact w2, fun j hj => ?_, fun i j hi hj => ?_⟩
  · rw [e (c + 1) _ (by omega) (by omega), e (c + 2) _ (by omega) (by omega), e (c + 3) _ (by omega) (by omega), e (c + 4) _ (by omega) (by omega)]
    exact w3 j hj
  · rw [e (c + 5) _ (by omega) (by omega)]
    exact w4 i j hi hj
/-- both ways as they are drawn -/
def Wys (X : Mm) (v : Mv) : Prop := WayC X 17 v (va v) (vu v) ∧ WayC X 23 v (vu v) (va v)
theorem Wys.fr {X X2 : Mm} {v : Mv} (hw : Wys X v) (e : ∀ d k, 17 ≤ d → d ≤ 28 → X2 d k = X d k) : Wys X2 v := ⟨hw.1.fr (fun d k h1 h2 => e d k h1 (by omega)), hw.2.fr (fun d k h1 h2 => e d k (by omega) h2)⟩
set_option maxRecDepth 100000 in
theorem ct_X7_drawWays {l : Launch} {g : Geo} {X : Mm} {K : AV → Mm → Prop} {v : Mv} (hX : MvC X 5 v) (hv : Vd v) (hk : ∀ X2, Wys X2 v → (∀ d k, (d < 17 ∨ 28 < d) → X2 d k = X d k) → K (vI 0) X2) : Ct l g mX7_drawWays [vR 0] X K := by
  refine enter (by decide) (Nat.le_of_ble_eq_true rfl) (fun κ => ?_)
  refine g_aload_n rfl dX7_drawWays_0 ?_
  refine gf_X7_33 (c2 := 17) rfl rfl (by first | rfl | assumption) dX7_drawWays_1 ?_
  refine g_aload_n rfl dX7_drawWays_4 ?_
  refine gf_X7_23 (c2 := 5) rfl rfl (by first | rfl | assumption) dX7_drawWays_5 ?_
  refine g_aload_n rfl dX7_drawWays_8 ?_
  refine gf_X7_23 (c2 := 5) rfl rfl (by first | rfl | assumption) dX7_drawWays_9 ?_
  refine gf_X7_131 (c2 := 8) rfl rfl (by first | rfl | assumption) dX7_drawWays_12 ?_
  refine g_aload_n rfl dX7_drawWays_15 ?_
  refine gf_X7_23 (c2 := 5) rfl rfl (by first | rfl | assumption) dX7_drawWays_16 ?_
  refine gf_X7_134 (c2 := 9) rfl rfl (by first | rfl | assumption) dX7_drawWays_19 ?_
  refine g_cv3v (M2 := mX6_draw) (ci := 6) dX7_drawWays_22 ml_RX7_229 kX6_draw rfl (by first | rfl | assumption) (by decide) rfl (by unfold Rm; decide) (Nat.le_of_ble_eq_true rfl) (ct_X6_draw_17 hX hv (fun X2 hw hf => ?_))
  refine g_aload_n rfl dX7_drawWays_25 ?_
  refine gf_X7_37 (c2 := 23) rfl rfl (by first | rfl | assumption) dX7_drawWays_26 ?_
  refine g_aload_n rfl dX7_drawWays_29 ?_
  refine gf_X7_23 (c2 := 5) rfl rfl (by first | rfl | assumption) dX7_drawWays_30 ?_
  refine g_aload_n rfl dX7_drawWays_33 ?_
  refine gf_X7_23 (c2 := 5) rfl rfl (by first | rfl | assumption) dX7_drawWays_34 ?_
  refine gf_X7_134 (c2 := 9) rfl rfl (by first | rfl | assumption) dX7_drawWays_37 ?_
  refine g_aload_n rfl dX7_drawWays_40 ?_
  refine gf_X7_23 (c2 := 5) rfl rfl (by first | rfl | assumption) dX7_drawWays_41 ?_
  refine gf_X7_131 (c2 := 8) rfl rfl (by first | rfl | assumption) dX7_drawWays_44 ?_
  refine g_cv3v (M2 := mX6_draw) (ci := 6) dX7_drawWays_47 ml_RX7_229 kX6_draw rfl (by first | rfl | assumption) (by decide) rfl (by unfold Rm; decide) (Nat.le_of_ble_eq_true rfl) (ct_X6_draw_23 (hX.fr (fun d k h1 h2 => hf d k (by omega))) hv (fun X3 hw3 hf3 => ?_))
  refine g_return rfl dX7_drawWays_50 ?_
  refine hk _ ⟨hw.fr (fun d k h1 h2 => hf3 d k (by omega)), hw3⟩ (fun d k hd => ?_)
  rw [hf3 d k (by omega), hf d k (by omega)]
set_option maxRecDepth 100000 in
theorem ct_X7_followMover {l : Launch} {g : Geo} {X : Mm} {K : AV → Mm → Prop} {v : Mv} {a b : Int} (hX : MvC X 5 v) (hv : Vd v) (ht : X 29 0 = 0 ∨ X 29 0 = 1) (hp : X 29 0 = 1 → X 29 1 = a ∧ X 29 2 = b ∧ pB a b ∧ (vr v = 0 → b = 0)) (hk : ∀ X2, Wys X2 v → (∀ d k, (d < 17 ∨ 28 < d) → d ≠ 29 → X2 d k = X d k) → (∀ k, k ≠ 0 → X2 29 k = X 29 k) → ((X 29 0 = 1 ∧ onL v a b) → X2 29 0 = 1) → (¬ (X 29 0 = 1 ∧ onL v a b) → X2 29 0 = 0) → K (vI 0) X2) : Ct l g mX7_followMover [vR 0] X K := by
  refine enter (by decide) (Nat.le_of_ble_eq_true rfl) (fun κ => ?_)
  have fin : ∀ (X2 : Mm) (t : Int), Wys X2 v → (∀ d k, (d < 17 ∨ 28 < d) → X2 d k = X d k) → ((X 29 0 = 1 ∧ onL v a b) → t = 1) → (¬ (X 29 0 = 1 ∧ onL v a b) → t = 0) → K (vI 0) (st2 X2 29 0 t) := by
    intro X2 t hw hf h1 h2
    refine hk _ (hw.fr (fun d k h1 h2 => by
      have z : d ≠ 29 := by omega
      simp [st2, z])) (fun d k hd h29 => by simp [st2, h29]; exact hf d k hd) (fun k hk => by simp [st2, hk]; exact hf 29 k (by omega)) (fun q => by simp [st2]; exact h1 q) (fun q => by simp [st2]; exact h2 q)
  refine g_aload_n rfl dX7_followMover_0 ?_
  refine g_cv0v (M2 := mX7_drawWays) (ci := 7) dX7_followMover_1 ml_RX7_109 kX7_drawWays rfl (by first | rfl | assumption) (by decide) rfl (by unfold Rm; decide) (Nat.le_of_ble_eq_true rfl) (ct_X7_drawWays hX hv (fun X2 hw hf => ?_))
  have e0 := hf 29 0 (by omega)
  have e1 := hf 29 1 (by omega)
  have e2 := hf 29 2 (by omega)
  refine g_aload_n rfl dX7_followMover_4 ?_
  refine gf_X7_43 (c2 := 29) rfl rfl (by first | rfl | assumption) dX7_followMover_5 ?_
  refine g_aload_n rfl dX7_followMover_8 ?_
  refine gf_X7_43 (c2 := 29) rfl rfl (by first | rfl | assumption) dX7_followMover_9 ?_
  refine gf_X7_77 rfl (by first | rfl | assumption) dX7_followMover_12 ?_
  refine g_if_eq (t := 46) dX7_followMover_15 (by decide) (by first | omega | (simp [st2]; done) | (simp [st2]; omega)) (fun b15 => ?_) (fun b15 => ?_)
  · refine g_iconst dX7_followMover_46 ?_
    refine pf_X7_77 (by omega) rfl (by first | rfl | assumption) dX7_followMover_47 ?_
    refine g_return rfl dX7_followMover_50 ?_
    refine fin _ _ hw hf ?_ ?_
    · intro q
      first | rfl | (exfalso; omega) | exact absurd q.2 hon
    · intro q
      first | rfl | (exfalso; omega) | exact absurd ⟨by omega, hon⟩ q
  · obtain ⟨pa, pb, pc, pd⟩ := hp (by omega)
    refine g_aload_n rfl dX7_followMover_18 ?_
    refine gf_X7_33 (c2 := 17) rfl rfl (by first | rfl | assumption) dX7_followMover_19 ?_
    refine g_aload_n rfl dX7_followMover_22 ?_
    refine gf_X7_43 (c2 := 29) rfl rfl (by first | rfl | assumption) dX7_followMover_23 ?_
    refine gf_X7_150 rfl (by first | rfl | assumption) dX7_followMover_26 ?_
    refine g_aload_n rfl dX7_followMover_29 ?_
    refine gf_X7_43 (c2 := 29) rfl rfl (by first | rfl | assumption) dX7_followMover_30 ?_
    refine gf_X7_154 rfl (by first | rfl | assumption) dX7_followMover_33 ?_
    rw [e1, e2, pa, pb]
    refine g_cv2 (M2 := mX6_covers) (ci := 6) dX7_followMover_36 ml_RX7_138 kX6_covers (by decide) (by first | rfl | assumption) (by decide) rfl (by unfold Rm; decide) (Nat.le_of_ble_eq_true rfl) (ct_X6_covers_17 hw.1 hv hv.2.2.2.2.1 pc pd (fun hon => ?_) (fun hon => ?_))
    · refine g_if_eq (t := 46) dX7_followMover_39 (by decide) (by first | omega | (simp [st2]; done) | (simp [st2]; omega)) (fun b39 => ?_) (fun b39 => ?_)
      · refine g_iconst dX7_followMover_46 ?_
        refine pf_X7_77 (by omega) rfl (by first | rfl | assumption) dX7_followMover_47 ?_
        refine g_return rfl dX7_followMover_50 ?_
        refine fin _ _ hw hf ?_ ?_
        · intro q
          first | rfl | (exfalso; omega) | exact absurd q.2 hon
        · intro q
          first | rfl | (exfalso; omega) | exact absurd ⟨by omega, hon⟩ q
      · refine g_iconst dX7_followMover_42 ?_
        refine g_goto (t := 47) dX7_followMover_43 (by decide) ?_
        refine pf_X7_77 (by omega) rfl (by first | rfl | assumption) dX7_followMover_47 ?_
        refine g_return rfl dX7_followMover_50 ?_
        refine fin _ _ hw hf ?_ ?_
        · intro q
          first | rfl | (exfalso; omega) | exact absurd q.2 hon
        · intro q
          first | rfl | (exfalso; omega) | exact absurd ⟨by omega, hon⟩ q
    · refine g_if_eq (t := 46) dX7_followMover_39 (by decide) (by first | omega | (simp [st2]; done) | (simp [st2]; omega)) (fun b39 => ?_) (fun b39 => ?_)
      · refine g_iconst dX7_followMover_46 ?_
        refine pf_X7_77 (by omega) rfl (by first | rfl | assumption) dX7_followMover_47 ?_
        refine g_return rfl dX7_followMover_50 ?_
        refine fin _ _ hw hf ?_ ?_
        · intro q
          first | rfl | (exfalso; omega) | exact absurd q.2 hon
        · intro q
          first | rfl | (exfalso; omega) | exact absurd ⟨by omega, hon⟩ q
      · refine g_iconst dX7_followMover_42 ?_
        refine g_goto (t := 47) dX7_followMover_43 (by decide) ?_
        refine pf_X7_77 (by omega) rfl (by first | rfl | assumption) dX7_followMover_47 ?_
        refine g_return rfl dX7_followMover_50 ?_
        refine fin _ _ hw hf ?_ ?_
        · intro q
          first | rfl | (exfalso; omega) | exact absurd q.2 hon
        · intro q
          first | rfl | (exfalso; omega) | exact absurd ⟨by omega, hon⟩ q
/-- the mover that is laid from a sheet -/
def LayV (X : Mm) (m : Nat) (v : Mv) : Prop := vn v = m ∧ vr v = X 0 0 ∧ (∀ k, k < m → vA v k = X 2 k ∧ vB v k = X 3 k ∧ va v k = k ∧ (vu v k : Int) = X 4 k) ∧ ∀ i j, i < m → j < m → vT v i j = if i = j then 1 else 0
set_option maxRecDepth 100000 in
theorem ct_X7_lay {l : Launch} {g : Geo} {X : Mm} {K : AV → Mm → Prop} {m : Nat} {v : Mv} (hm : X 1 0 = (m : Int)) (hm8 : m ≤ 8) (hA : ∀ k, k < 8 → (-16384 ≤ X 2 k ∧ X 2 k ≤ 16384) ∧ (-16384 ≤ X 3 k ∧ X 3 k ≤ 16384)) (hlv : LayV X m v) (hvd : 0 < m → (∀ k, k < m → ¬ (X 2 k = 0 ∧ X 3 k = 0)) → Vd v) (h0 : m = 0 → K (vI (-1)) X) (h1 : 0 < m → (∃ k, k < m ∧ X 2 k = 0 ∧ X 3 k = 0) → K (vI (-2)) X) (h2 : 0 < m → (∀ k, k < m → ¬ (X 2 k = 0 ∧ X 3 k = 0)) → ∀ X2, MvC X2 5 v → Wys X2 v → X2 5 2 = 0 → X2 5 3 = 0 → X2 29 0 = 0 → (∀ d k, (d < 5 ∨ 28 < d) → d ≠ 29 → X2 d k = X d k) → K (vI (m : Int)) X2) : Ct l g mX7_lay [vR 0] X K := by
  refine enter (by decide) (Nat.le_of_ble_eq_true rfl) (fun κ => ?_)
  refine g_aload_n rfl dX7_lay_0 ?_
  refine gf_X7_16 (c2 := 1) rfl rfl (by first | rfl | assumption) dX7_lay_1 ?_
  refine gf_X7_100 rfl (by first | rfl | assumption) dX7_lay_4 ?_
  refine g_if_ne (t := 12) dX7_lay_7 (by decide) (by first | omega | (simp [st2]; done) | (simp [st2]; omega)) (fun b7 => ?_) (fun b7 => ?_)
  · refine g_aload_n rfl dX7_lay_12 ?_
    refine gf_X7_16 (c2 := 1) rfl rfl (by first | rfl | assumption) dX7_lay_13 ?_
    refine g_cv0 (M2 := mX4_hasAllLengths) (ci := 4) dX7_lay_16 ml_RX7_101 kX4_hasAllLengths (by decide) (by first | rfl | assumption) (by decide) rfl (by unfold Rm; decide) (Nat.le_of_ble_eq_true rfl) (ct_X4_hasAllLengths hm hm8 hA (fun q => ?_) (fun q => ?_))
    · refine g_if_ne (t := 25) dX7_lay_19 (by decide) (by first | omega | (simp [st2]; done) | (simp [st2]; omega)) (fun b19 => ?_) (fun b19 => ?_)
      · have hall : ∀ k, k < m → ¬ (X 2 k = 0 ∧ X 3 k = 0) := by first | exact q | (exfalso; omega)
        have hv := hvd (by omega) hall
        refine g_aload_n rfl dX7_lay_25 ?_
        refine gf_X7_23 (c2 := 5) rfl rfl (by first | rfl | assumption) dX7_lay_26 ?_
        refine g_aload_n rfl dX7_lay_29 ?_
        refine gf_X7_16 (c2 := 1) rfl rfl (by first | rfl | assumption) dX7_lay_30 ?_
        refine g_aload_n rfl dX7_lay_33 ?_
        refine gf_X7_7 rfl (by first | rfl | assumption) dX7_lay_34 ?_
        refine g_cv2v (M2 := mX3_layFrom) (ci := 3) dX7_lay_37 ml_RX7_105 kX3_layFrom rfl (by first | rfl | assumption) (by decide) rfl (by unfold Rm; decide) (Nat.le_of_ble_eq_true rfl) (ct_X3_layFrom hm hm8 (fun X2 hc => ?_))
        have hX2 : MvC X2 5 v := by
          obtain ⟨c1, c2, c3, c4⟩ := hc
          obtain ⟨v1, v2, v3, v4⟩ := hlv
          refine ⟨by rw [v1]; exact c2.1, by rw [v2]; exact c2.2.1, fun k hk => ?_, fun i j hi hj => ?_⟩
          · have z := c3 k (by omega)
            have y := v3 k (by omega)
            refine ⟨z.1.trans y.1.symm, z.2.1.trans y.2.1.symm, ?_, z.2.2.2.trans y.2.2.2.symm⟩
            rw [y.2.2.1]
            exact z.2.2.1
          · rw [v4 i j (by omega) (by omega)]
            exact c4 i j (by omega) (by omega)
        refine g_aload_n rfl dX7_lay_40 ?_
        refine g_cv0v (M2 := mX7_drawWays) (ci := 7) dX7_lay_41 ml_RX7_109 kX7_drawWays rfl (by first | rfl | assumption) (by decide) rfl (by unfold Rm; decide) (Nat.le_of_ble_eq_true rfl) (ct_X7_drawWays hX2 hv (fun X3 hw hf => ?_))
        refine g_aload_n rfl dX7_lay_44 ?_
        refine gf_X7_43 (c2 := 29) rfl rfl (by first | rfl | assumption) dX7_lay_45 ?_
        refine g_iconst dX7_lay_48 ?_
        refine pf_X7_77 (by omega) rfl (by first | rfl | assumption) dX7_lay_49 ?_
        refine g_aload_n rfl dX7_lay_52 ?_
        refine gf_X7_23 (c2 := 5) rfl rfl (by first | rfl | assumption) dX7_lay_53 ?_
        refine gf_X7_74 rfl (by first | rfl | assumption) dX7_lay_56 ?_
        refine g_ireturn rfl dX7_lay_59 ?_
        have hX3 : MvC X3 5 v := hX2.fr (fun d k h1 h2 => hf d k (by omega))
        have fr : ∀ d k, d ≠ 29 → st2 X3 29 0 0 d k = X3 d k := fun d k hd => by simp [st2, hd]
        refine kE (h2 (by omega) hall _ (hX3.fr (fun d k h1 h2 => fr d k (by omega))) (hw.fr (fun d k h1 h2 => fr d k (by omega))) ?_ ?_ rfl ?_) ?_
        · rw [fr 5 2 (by decide), hf 5 2 (by omega)]
          exact hc.2.1.2.2.1
        · rw [fr 5 3 (by decide), hf 5 3 (by omega)]
          exact hc.2.1.2.2.2
        · intro d k hd h29
          rw [fr d k h29, hf d k (by omega)]
          exact hc.1 d k (by omega) (by omega) (by omega) (by omega) (by omega) (by omega)
        · rw [fr 5 0 (by decide), hX3.1, hlv.1]
      · refine g_bipush (by decide) dX7_lay_22 ?_
        refine g_ireturn rfl dX7_lay_24 ?_
        first | exact h1 (by omega) q | (exfalso; omega)
    · refine g_if_ne (t := 25) dX7_lay_19 (by decide) (by first | omega | (simp [st2]; done) | (simp [st2]; omega)) (fun b19 => ?_) (fun b19 => ?_)
      · have hall : ∀ k, k < m → ¬ (X 2 k = 0 ∧ X 3 k = 0) := by first | exact q | (exfalso; omega)
        have hv := hvd (by omega) hall
        refine g_aload_n rfl dX7_lay_25 ?_
        refine gf_X7_23 (c2 := 5) rfl rfl (by first | rfl | assumption) dX7_lay_26 ?_
        refine g_aload_n rfl dX7_lay_29 ?_
        refine gf_X7_16 (c2 := 1) rfl rfl (by first | rfl | assumption) dX7_lay_30 ?_
        refine g_aload_n rfl dX7_lay_33 ?_
        refine gf_X7_7 rfl (by first | rfl | assumption) dX7_lay_34 ?_
        refine g_cv2v (M2 := mX3_layFrom) (ci := 3) dX7_lay_37 ml_RX7_105 kX3_layFrom rfl (by first | rfl | assumption) (by decide) rfl (by unfold Rm; decide) (Nat.le_of_ble_eq_true rfl) (ct_X3_layFrom hm hm8 (fun X2 hc => ?_))
        have hX2 : MvC X2 5 v := by
          obtain ⟨c1, c2, c3, c4⟩ := hc
          obtain ⟨v1, v2, v3, v4⟩ := hlv
          refine ⟨by rw [v1]; exact c2.1, by rw [v2]; exact c2.2.1, fun k hk => ?_, fun i j hi hj => ?_⟩
          · have z := c3 k (by omega)
            have y := v3 k (by omega)
            refine ⟨z.1.trans y.1.symm, z.2.1.trans y.2.1.symm, ?_, z.2.2.2.trans y.2.2.2.symm⟩
            rw [y.2.2.1]
            exact z.2.2.1
          · rw [v4 i j (by omega) (by omega)]
            exact c4 i j (by omega) (by omega)
        refine g_aload_n rfl dX7_lay_40 ?_
        refine g_cv0v (M2 := mX7_drawWays) (ci := 7) dX7_lay_41 ml_RX7_109 kX7_drawWays rfl (by first | rfl | assumption) (by decide) rfl (by unfold Rm; decide) (Nat.le_of_ble_eq_true rfl) (ct_X7_drawWays hX2 hv (fun X3 hw hf => ?_))
        refine g_aload_n rfl dX7_lay_44 ?_
        refine gf_X7_43 (c2 := 29) rfl rfl (by first | rfl | assumption) dX7_lay_45 ?_
        refine g_iconst dX7_lay_48 ?_
        refine pf_X7_77 (by omega) rfl (by first | rfl | assumption) dX7_lay_49 ?_
        refine g_aload_n rfl dX7_lay_52 ?_
        refine gf_X7_23 (c2 := 5) rfl rfl (by first | rfl | assumption) dX7_lay_53 ?_
        refine gf_X7_74 rfl (by first | rfl | assumption) dX7_lay_56 ?_
        refine g_ireturn rfl dX7_lay_59 ?_
        have hX3 : MvC X3 5 v := hX2.fr (fun d k h1 h2 => hf d k (by omega))
        have fr : ∀ d k, d ≠ 29 → st2 X3 29 0 0 d k = X3 d k := fun d k hd => by simp [st2, hd]
        refine kE (h2 (by omega) hall _ (hX3.fr (fun d k h1 h2 => fr d k (by omega))) (hw.fr (fun d k h1 h2 => fr d k (by omega))) ?_ ?_ rfl ?_) ?_
        · rw [fr 5 2 (by decide), hf 5 2 (by omega)]
          exact hc.2.1.2.2.1
        · rw [fr 5 3 (by decide), hf 5 3 (by omega)]
          exact hc.2.1.2.2.2
        · intro d k hd h29
          rw [fr d k h29, hf d k (by omega)]
          exact hc.1 d k (by omega) (by omega) (by omega) (by omega) (by omega) (by omega)
        · rw [fr 5 0 (by decide), hX3.1, hlv.1]
      · refine g_bipush (by decide) dX7_lay_22 ?_
        refine g_ireturn rfl dX7_lay_24 ?_
        first | exact h1 (by omega) q | (exfalso; omega)
  · refine g_iconst dX7_lay_10 ?_
    refine g_ireturn rfl dX7_lay_11 ?_
    exact h0 (by omega)
def PtC (X : Mm) (a b : Int) (X2 : Mm) : Prop := (∀ c j, c ≠ 29 → c ≠ 30 → X2 c j = X c j) ∧ X2 29 0 = 1 ∧ X2 29 1 = a ∧ X2 29 2 = b
def ScC (X X2 : Mm) : Prop := ∀ c j, c ≠ 30 → X2 c j = X c j
set_option maxRecDepth 100000 in
theorem ct_X7_point {l : Launch} {g : Geo} {X : Mm} {K : AV → Mm → Prop} {v : Mv} {a b : Int} (ha : -2147483648 ≤ a ∧ a < 2147483648) (hb : -2147483648 ≤ b ∧ b < 2147483648) (hn : X 5 0 = (vn v : Int)) (hr : isRoot (X 0 0)) (hX : vn v ≠ 0 → X 0 0 = vr v ∧ Wys X v ∧ Vd v) (h0 : (vn v = 0 ∨ ¬ ptOk v a b) → K (vI (-1)) X) (h1 : vn v ≠ 0 → ptOk v a b → ∀ X2, PtC X a b X2 → K (vI (spanOf v a b : Int)) X2) : Ct l g mX7_point [vR 0, vI a, vI b] X K := by
  refine enter (by decide) (Nat.le_of_ble_eq_true rfl) (fun κ => ?_)
  rcases Nat.eq_zero_or_pos (vn v) with hz | hz
  · have hz2 := hz
    refine g_aload_n rfl dX7_point_0 ?_
    refine gf_X7_23 (c2 := 5) rfl rfl (by first | rfl | assumption) dX7_point_1 ?_
    refine gf_X7_74 rfl (by first | rfl | assumption) dX7_point_4 ?_
    refine g_if_eq (t := 35) dX7_point_7 (by decide) (by first | omega | (simp [st2]; done) | (simp [st2]; omega)) (fun b7 => ?_) (fun b7 => ?_)
    · refine g_iconst dX7_point_35 ?_
      refine g_ireturn rfl dX7_point_36 ?_
      exact h0 (Or.inl hz)
    · exfalso; omega
  · obtain ⟨e0, hw, hv⟩ := hX (by omega)
    have hn8 := hv.2.1
    have hr2 := hv.2.2.1
    unfold isRoot at hr2
    have hpt : PtC X a b (st2 (st2 (st2 X 29 0 1) 29 1 a) 29 2 b) := ⟨fun c j hc h30 => by simp [st2, hc], rfl, rfl, rfl⟩
    refine g_aload_n rfl dX7_point_0 ?_
    refine gf_X7_23 (c2 := 5) rfl rfl (by first | rfl | assumption) dX7_point_1 ?_
    refine gf_X7_74 rfl (by first | rfl | assumption) dX7_point_4 ?_
    refine g_if_eq (t := 35) dX7_point_7 (by decide) (by first | omega | (simp [st2]; done) | (simp [st2]; omega)) (fun b7 => ?_) (fun b7 => ?_)
    · exfalso; omega
    · refine g_aload_n rfl dX7_point_10 ?_
      refine g_iload_n rfl dX7_point_11 ?_
      refine g_iload_n rfl dX7_point_12 ?_
      refine g_ldc (n := (536870912)) kc_RX7_137 dX7_point_13 ?_
      refine g_cv3 (M2 := mX7_canBe) (ci := 7) dX7_point_15 ml_RX7_81 kX7_canBe (by decide) (by first | rfl | assumption) (by decide) rfl (by unfold Rm; decide) (Nat.le_of_ble_eq_true rfl) (ct_X7_canBe hr (by omega) (by omega) (by omega) ?_)
      refine g_if_eq (t := 35) dX7_point_18 (by decide) (by first | omega | (simp [st2]; done) | (simp [st2]; omega)) (fun b18 => ?_) (fun b18 => ?_)
      · refine g_iconst dX7_point_35 ?_
        refine g_ireturn rfl dX7_point_36 ?_
        refine h0 (Or.inr (fun q => ?_))
        first | exact hon q.2.2 | (have q1 := q.1; have q2 := q.2.1; unfold pB at q1; omega)
      · refine g_aload_n rfl dX7_point_21 ?_
        refine gf_X7_33 (c2 := 17) rfl rfl (by first | rfl | assumption) dX7_point_22 ?_
        refine g_iload_n rfl dX7_point_25 ?_
        refine g_i2l (by first | omega | (simp [st2]; done) | (simp [st2]; omega)) dX7_point_26 ?_
        refine g_iload_n rfl dX7_point_27 ?_
        refine g_i2l (by first | omega | (simp [st2]; done) | (simp [st2]; omega)) dX7_point_28 ?_
        refine g_cv2 (M2 := mX6_covers) (ci := 6) dX7_point_29 ml_RX7_138 kX6_covers (by decide) (by first | rfl | assumption) (by decide) rfl (by unfold Rm; decide) (Nat.le_of_ble_eq_true rfl) (ct_X6_covers_17 hw.1 hv hv.2.2.2.2.1 (by unfold pB; omega) (by omega) (fun hon => ?_) (fun hon => ?_))
        · refine g_if_ne (t := 37) dX7_point_32 (by decide) (by first | omega | (simp [st2]; done) | (simp [st2]; omega)) (fun b32 => ?_) (fun b32 => ?_)
          · have hq : ptOk v a b := by first | exact ⟨by unfold pB; omega, by omega, hon⟩ | (exfalso; omega)
            refine g_aload_n rfl dX7_point_37 ?_
            refine gf_X7_43 (c2 := 29) rfl rfl (by first | rfl | assumption) dX7_point_38 ?_
            refine g_iload_n rfl dX7_point_41 ?_
            refine g_i2l (by first | omega | (simp [st2]; done) | (simp [st2]; omega)) dX7_point_42 ?_
            refine g_iload_n rfl dX7_point_43 ?_
            refine g_i2l (by first | omega | (simp [st2]; done) | (simp [st2]; omega)) dX7_point_44 ?_
            refine g_cv2v (M2 := mX5_put) (ci := 5) dX7_point_45 ml_RX7_142 kX5_put rfl (by first | rfl | assumption) (by decide) rfl (by unfold Rm; decide) (Nat.le_of_ble_eq_true rfl) (ct_X5_put rfl ?_)
            refine g_aload_n rfl dX7_point_48 ?_
            refine gf_X7_33 (c2 := 17) rfl rfl (by first | rfl | assumption) dX7_point_49 ?_
            refine g_aload_n rfl dX7_point_52 ?_
            refine gf_X7_43 (c2 := 29) rfl rfl (by first | rfl | assumption) dX7_point_53 ?_
            refine g_cv1 (M2 := mX6_spanAt) (ci := 6) dX7_point_56 ml_RX7_146 kX6_spanAt (by decide) (by first | rfl | assumption) (by decide) rfl (by unfold Rm; decide) (Nat.le_of_ble_eq_true rfl) (ct_X6_spanAt_17_29 (hw.1.fr (fun d k h1 h2 => hpt.1 d k (by omega) (by omega))) hv hv.2.2.2.2.1 rfl rfl hq ?_)
            refine g_ireturn rfl dX7_point_59 ?_
            exact h1 (by omega) hq _ hpt
          · refine g_iconst dX7_point_35 ?_
            refine g_ireturn rfl dX7_point_36 ?_
            refine h0 (Or.inr (fun q => ?_))
            first | exact hon q.2.2 | (have q1 := q.1; have q2 := q.2.1; unfold pB at q1; omega)
        · refine g_if_ne (t := 37) dX7_point_32 (by decide) (by first | omega | (simp [st2]; done) | (simp [st2]; omega)) (fun b32 => ?_) (fun b32 => ?_)
          · have hq : ptOk v a b := by first | exact ⟨by unfold pB; omega, by omega, hon⟩ | (exfalso; omega)
            refine g_aload_n rfl dX7_point_37 ?_
            refine gf_X7_43 (c2 := 29) rfl rfl (by first | rfl | assumption) dX7_point_38 ?_
            refine g_iload_n rfl dX7_point_41 ?_
            refine g_i2l (by first | omega | (simp [st2]; done) | (simp [st2]; omega)) dX7_point_42 ?_
            refine g_iload_n rfl dX7_point_43 ?_
            refine g_i2l (by first | omega | (simp [st2]; done) | (simp [st2]; omega)) dX7_point_44 ?_
            refine g_cv2v (M2 := mX5_put) (ci := 5) dX7_point_45 ml_RX7_142 kX5_put rfl (by first | rfl | assumption) (by decide) rfl (by unfold Rm; decide) (Nat.le_of_ble_eq_true rfl) (ct_X5_put rfl ?_)
            refine g_aload_n rfl dX7_point_48 ?_
            refine gf_X7_33 (c2 := 17) rfl rfl (by first | rfl | assumption) dX7_point_49 ?_
            refine g_aload_n rfl dX7_point_52 ?_
            refine gf_X7_43 (c2 := 29) rfl rfl (by first | rfl | assumption) dX7_point_53 ?_
            refine g_cv1 (M2 := mX6_spanAt) (ci := 6) dX7_point_56 ml_RX7_146 kX6_spanAt (by decide) (by first | rfl | assumption) (by decide) rfl (by unfold Rm; decide) (Nat.le_of_ble_eq_true rfl) (ct_X6_spanAt_17_29 (hw.1.fr (fun d k h1 h2 => hpt.1 d k (by omega) (by omega))) hv hv.2.2.2.2.1 rfl rfl hq ?_)
            refine g_ireturn rfl dX7_point_59 ?_
            exact h1 (by omega) hq _ hpt
          · refine g_iconst dX7_point_35 ?_
            refine g_ireturn rfl dX7_point_36 ?_
            refine h0 (Or.inr (fun q => ?_))
            first | exact hon q.2.2 | (have q1 := q.1; have q2 := q.2.1; unfold pB at q1; omega)
/-- the walker's numbers are others -/
def wk (X : Mm) (a b : Int) : Mm := st2 (st2 X 30 1 a) 30 2 b
theorem wk_fr (X : Mm) (a b : Int) {c : Nat} (h : c ≠ 30) (j : Nat) : wk X a b c j = X c j := by simp [wk, st2, h]
