/-! the class's STEP -/
theorem mvC_stp {X X4 : Mm} {c : Nat} {v : Mv} {w x : Nat} {f h : Nat → Nat} (hX : MvC X c v) (e5 : X4 c 0 = X c 0) (e0 : X4 c 1 = X c 1) (eA : ∀ k, k < vn v → X4 (c + 1) k = if k = w then vA v w - vA v x else vA v k) (eB : ∀ k, k < vn v → X4 (c + 2) k = if k = w then vB v w - vB v x else vB v k) (eU : Rw X4 (c + 3) (vn v) f) (eD : Rw X4 (c + 4) (vn v) h) (eT : ∀ i j, i < vn v → j < vn v → X4 (c + 5) (8 * i + j) = if j = x then vT v i x + vT v i w else vT v i j) : MvC X4 c (stp v w x f h) := ⟨e5.trans hX.1, e0.trans hX.2.1, fun k hk => ⟨eA k hk, eB k hk, eU k hk, eD k hk⟩, eT⟩
theorem tC_s {X X2 : Mm} {v : Mv} {o w x i : Nat} {q : Int} (hn : vn v ≤ 8) (hx : x < vn v) (hi : i < vn v) (hfr : ∀ d j, d ≠ o → X2 d j = X d j) (hT : ∀ a b, a < vn v → b < vn v → X2 o (8 * a + b) = if a < i ∧ b = x then vT v a x + vT v a w else vT v a b) (hq : q = vT v i x + vT v i w) : (∀ d j, d ≠ o → (st2 X2 o (8 * i + x) q) d j = X d j) ∧ ∀ a b, a < vn v → b < vn v → (st2 X2 o (8 * i + x) q) o (8 * a + b) = if a < i + 1 ∧ b = x then vT v a x + vT v a w else vT v a b := by
  refine ⟨fun d j hd => by simp only [st2, if_neg hd]; exact hfr d j hd, fun a b ha hb => ?_⟩
  by_cases c1 : a = i ∧ b = x
  · obtain ⟨rfl, rfl⟩ := c1
    have z : st2 X2 o (8 * a + b) q o (8 * a + b) = q := by simp [st2]
    rw [z, if_pos (by omega)]
    exact hq
  · have z : 8 * a + b ≠ 8 * i + x := by omega
    simp only [st2, if_true, if_neg z]
    rw [hT a b ha hb]
    by_cases c2 : a < i ∧ b = x
    · rw [if_pos c2, if_pos (by omega)]
    · rw [if_neg c2, if_neg (by omega)]
set_option maxRecDepth 100000 in
set_option maxHeartbeats 4000000 in
theorem ct_X3_isSpentBy_5 {l : Launch} {g : Geo} {X : Mm} {K : AV → Mm → Prop} {v : Mv} {w x : Nat} (hX : MvC X 5 v) (hv : Vd v) (hw : w < vn v) (hx : x < vn v) (h1 : spent v w x → K (vI 1) X) (h0 : ¬ spent v w x → K (vI 0) X) : Ct l g mX3_isSpentBy [vR 5, vI (w : Int), vI (x : Int)] X K := by
  refine enter (by decide) (Nat.le_of_ble_eq_true rfl) (fun κ => ?_)
  have hn8 := hv.2.1
  have x1 : X 5 0 = (vn v : Int) := hX.1
  have xwA : X 6 w = vA v w := (hX.2.2.1 _ hw).1
  have xwB : X 7 w = vB v w := (hX.2.2.1 _ hw).2.1
  have xxA : X 6 x = vA v x := (hX.2.2.1 _ hx).1
  have xxB : X 7 x = vB v x := (hX.2.2.1 _ hx).2.1
  have vW := hv.2.2.2.1 _ hw
  have vX := hv.2.2.2.1 _ hx
  have loop : ((-16384 ≤ vA v w - vA v x ∧ vA v w - vA v x ≤ 16384) ∧ (-16384 ≤ vB v w - vB v x ∧ vB v w - vB v x ≤ 16384)) → ∀ i : Nat, i ≤ vn v → (∀ p, p < i → vT v p x + vT v p w ≤ 1099511627776) → G l g mX3_isSpentBy κ K 50 [(0, vR 5), (1, vI (w : Int)), (2, vI (x : Int)), (3, vI (i : Int))] [] X := by
    intro hab
    refine upTo (vn v) ?_
    intro i hi ih hlt
    refine g_iload_n rfl dX3_isSpentBy_50 ?_
    refine g_aload_n rfl dX3_isSpentBy_51 ?_
    refine gf_X3_34 rfl (by first | rfl | assumption) dX3_isSpentBy_52 ?_
    refine g_icmp_ge (t := 98) dX3_isSpentBy_55 (by decide) (by first | omega | (simp [st2]; done) | (simp [st2]; omega)) (by first | omega | (simp [st2]; done) | (simp [st2]; omega)) (fun b55 => ?_) (fun b55 => ?_)
    · refine g_iconst dX3_isSpentBy_98 ?_
      refine g_zreturn rfl (by omega) dX3_isSpentBy_99 ?_
      refine h0 (fun q => ?_)
      rcases q with q | ⟨p, hp, q⟩
      · exact q hab
      · have := hlt p (by omega)
        omega
    · have t1 : X 10 (8 * i + x) = vT v i x := hX.2.2.2 i x (by omega) hx
      have t2 : X 10 (8 * i + w) = vT v i w := hX.2.2.2 i w (by omega) hw
      have b1 := hv.2.2.2.2.2.2 i x (by omega) hx
      have b2 := hv.2.2.2.2.2.2 i w (by omega) hw
      refine g_iload_n rfl dX3_isSpentBy_58 ?_
      refine g_bipush (by decide) dX3_isSpentBy_59 ?_
      refine g_imul dX3_isSpentBy_61 ?_
      refine g_istore (by decide) dX3_isSpentBy_62 ?_
      refine g_aload_n rfl dX3_isSpentBy_64 ?_
      refine gf_X3_24 (c2 := 10) rfl rfl (by first | rfl | assumption) dX3_isSpentBy_65 ?_
      refine g_iload rfl dX3_isSpentBy_68 ?_
      refine g_iload_n rfl dX3_isSpentBy_70 ?_
      refine g_iadd dX3_isSpentBy_71 ?_
      refine g_lald (n := 64) (8 * i + w) (by first | rfl | assumption) (by first | rfl | assumption) (by omega) (by first | omega | (simp [st2]; done) | (simp [st2]; omega)) (by first | omega | (simp [st2]; done) | (simp [st2]; omega)) dX3_isSpentBy_72 ?_
      refine g_aload_n rfl dX3_isSpentBy_73 ?_
      refine gf_X3_24 (c2 := 10) rfl rfl (by first | rfl | assumption) dX3_isSpentBy_74 ?_
      refine g_iload rfl dX3_isSpentBy_77 ?_
      refine g_iload_n rfl dX3_isSpentBy_79 ?_
      refine g_iadd dX3_isSpentBy_80 ?_
      refine g_lald (n := 64) (8 * i + x) (by first | rfl | assumption) (by first | rfl | assumption) (by omega) (by first | omega | (simp [st2]; done) | (simp [st2]; omega)) (by first | omega | (simp [st2]; done) | (simp [st2]; omega)) dX3_isSpentBy_81 ?_
      refine g_ladd dX3_isSpentBy_82 ?_
      refine g_ldc2 (n := (1099511627776)) kc_RX3_80 dX3_isSpentBy_83 ?_
      refine g_lle (t := 92) dX3_isSpentBy_86 dX3_isSpentBy_87 (by decide) (by first | omega | (simp [st2]; done) | (simp [st2]; omega)) (by first | omega | (simp [st2]; done) | (simp [st2]; omega)) (fun b86 => ?_) (fun b86 => ?_)
      · refine g_iinc rfl (by decide) dX3_isSpentBy_92 ?_
        refine g_goto (t := 50) dX3_isSpentBy_95 (by decide) ?_
        refine g_subl [(0, vR 5), (1, vI (w : Int)), (2, vI (x : Int)), (3, vI ((i + 1 : Nat) : Int))] rfl ?_
        refine ih (i + 1) (by omega) (by omega) (fun p hp => ?_)
        rcases Nat.lt_or_ge p i with z | z
        · exact hlt p z
        · rw [show p = i by omega]; omega
      · refine g_iconst dX3_isSpentBy_90 ?_
        refine g_zreturn rfl (by omega) dX3_isSpentBy_91 ?_
        exact h1 (Or.inr ⟨i, by omega, by omega⟩)
  refine g_aload_n rfl dX3_isSpentBy_0 ?_
  refine gf_X3_9 (c2 := 6) rfl rfl (by first | rfl | assumption) dX3_isSpentBy_1 ?_
  refine g_iload_n rfl dX3_isSpentBy_4 ?_
  refine g_iald (n := 8) (_) (by first | rfl | assumption) (by first | rfl | assumption) rfl (by first | omega | (simp [st2]; done) | (simp [st2]; omega)) (by first | omega | (simp [st2]; done) | (simp [st2]; omega)) dX3_isSpentBy_5 ?_
  refine g_aload_n rfl dX3_isSpentBy_6 ?_
  refine gf_X3_9 (c2 := 6) rfl rfl (by first | rfl | assumption) dX3_isSpentBy_7 ?_
  refine g_iload_n rfl dX3_isSpentBy_10 ?_
  refine g_iald (n := 8) (_) (by first | rfl | assumption) (by first | rfl | assumption) rfl (by first | omega | (simp [st2]; done) | (simp [st2]; omega)) (by first | omega | (simp [st2]; done) | (simp [st2]; omega)) dX3_isSpentBy_11 ?_
  refine g_isub dX3_isSpentBy_12 ?_
  refine g_i2l (by first | omega | (simp [st2]; done) | (simp [st2]; omega)) dX3_isSpentBy_13 ?_
  refine g_sipush (by decide) dX3_isSpentBy_14 ?_
  refine g_cn2 (M2 := mX7_isWithin) dX3_isSpentBy_17 nest4 kX7_isWithin (by decide) (by unfold Rm; decide) (Nat.le_of_ble_eq_true rfl) (ct_X7_isWithin (by omega) (by omega) ?_)
  refine g_if_eq (t := 46) dX3_isSpentBy_20 (by decide) (by first | omega | (simp [st2]; done) | (simp [st2]; omega)) (fun b20 => ?_) (fun b20 => ?_)
  · refine g_iconst dX3_isSpentBy_46 ?_
    refine g_zreturn rfl (by omega) dX3_isSpentBy_47 ?_
    exact h1 (Or.inl (by omega))
  · refine g_aload_n rfl dX3_isSpentBy_23 ?_
    refine gf_X3_15 (c2 := 7) rfl rfl (by first | rfl | assumption) dX3_isSpentBy_24 ?_
    refine g_iload_n rfl dX3_isSpentBy_27 ?_
    refine g_iald (n := 8) (_) (by first | rfl | assumption) (by first | rfl | assumption) rfl (by first | omega | (simp [st2]; done) | (simp [st2]; omega)) (by first | omega | (simp [st2]; done) | (simp [st2]; omega)) dX3_isSpentBy_28 ?_
    refine g_aload_n rfl dX3_isSpentBy_29 ?_
    refine gf_X3_15 (c2 := 7) rfl rfl (by first | rfl | assumption) dX3_isSpentBy_30 ?_
    refine g_iload_n rfl dX3_isSpentBy_33 ?_
    refine g_iald (n := 8) (_) (by first | rfl | assumption) (by first | rfl | assumption) rfl (by first | omega | (simp [st2]; done) | (simp [st2]; omega)) (by first | omega | (simp [st2]; done) | (simp [st2]; omega)) dX3_isSpentBy_34 ?_
    refine g_isub dX3_isSpentBy_35 ?_
    refine g_i2l (by first | omega | (simp [st2]; done) | (simp [st2]; omega)) dX3_isSpentBy_36 ?_
    refine g_sipush (by decide) dX3_isSpentBy_37 ?_
    refine g_cn2 (M2 := mX7_isWithin) dX3_isSpentBy_40 nest4 kX7_isWithin (by decide) (by unfold Rm; decide) (Nat.le_of_ble_eq_true rfl) (ct_X7_isWithin (by omega) (by omega) ?_)
    refine g_if_ne (t := 48) dX3_isSpentBy_43 (by decide) (by first | omega | (simp [st2]; done) | (simp [st2]; omega)) (fun b43 => ?_) (fun b43 => ?_)
    · refine g_iconst dX3_isSpentBy_48 ?_
      refine g_istore_n (by decide) dX3_isSpentBy_49 ?_
      refine g_subl [(0, vR 5), (1, vI (w : Int)), (2, vI (x : Int)), (3, vI ((0 : Nat) : Int))] rfl ?_
      exact loop (by omega) 0 (by omega) (fun p hp => absurd hp (by omega))
    · refine g_iconst dX3_isSpentBy_46 ?_
      refine g_zreturn rfl (by omega) dX3_isSpentBy_47 ?_
      exact h1 (Or.inl (by omega))
set_option maxRecDepth 100000 in
set_option maxHeartbeats 4000000 in
theorem ct_X3_shorten_5 {l : Launch} {g : Geo} {X : Mm} {K : AV → Mm → Prop} {v : Mv} {w x : Nat} (hX : MvC X 5 v) (hv : Vd v) (hw : w < vn v) (hx : x < vn v) (hwx : w ≠ x) (hk : ∀ X2 : Mm, (∀ d j, d ≠ 6 → d ≠ 7 → d ≠ 10 → X2 d j = X d j) → (∀ k, k < vn v → X2 6 k = if k = w then vA v w - vA v x else vA v k) → (∀ k, k < vn v → X2 7 k = if k = w then vB v w - vB v x else vB v k) → (∀ i j, i < vn v → j < vn v → X2 10 (8 * i + j) = if j = x then vT v i x + vT v i w else vT v i j) → K (vI 0) X2) : Ct l g mX3_shorten [vR 5, vI (w : Int), vI (x : Int)] X K := by
  refine enter (by decide) (Nat.le_of_ble_eq_true rfl) (fun κ => ?_)
  have hn8 := hv.2.1
  have x1 : X 5 0 = (vn v : Int) := hX.1
  have xwA : X 6 w = vA v w := (hX.2.2.1 _ hw).1
  have xwB : X 7 w = vB v w := (hX.2.2.1 _ hw).2.1
  have xxA : X 6 x = vA v x := (hX.2.2.1 _ hx).1
  have xxB : X 7 x = vB v x := (hX.2.2.1 _ hx).2.1
  obtain ⟨Y, eY⟩ : ∃ Y, Y = st2 (st2 X 6 w (vA v w - vA v x)) 7 w (vB v w - vB v x) := ⟨_, rfl⟩
  have y5 : ∀ j, Y 10 j = X 10 j := fun j => by rw [eY]; rfl
  have y0 : Y 5 0 = (vn v : Int) := by rw [eY]; exact x1
  have loop : ∀ i : Nat, i ≤ vn v → ∀ X2 : Mm, (∀ d j, d ≠ 10 → X2 d j = Y d j) → (∀ p q, p < vn v → q < vn v → X2 10 (8 * p + q) = if p < i ∧ q = x then vT v p x + vT v p w else vT v p q) → G l g mX3_shorten κ K 32 [(0, vR 5), (1, vI (w : Int)), (2, vI (x : Int)), (3, vI (i : Int))] [] X2 := by
    refine upTo (vn v) ?_
    intro i hi ih X2 hfr hT
    have z5 : X2 5 0 = (vn v : Int) := by rw [hfr 5 0 (by decide)]; exact y0
    refine g_iload_n rfl dX3_shorten_32 ?_
    refine g_aload_n rfl dX3_shorten_33 ?_
    refine gf_X3_34 rfl (by first | rfl | assumption) dX3_shorten_34 ?_
    refine g_icmp_ge (t := 73) dX3_shorten_37 (by decide) (by first | omega | (simp [st2]; done) | (simp [st2]; omega)) (by first | omega | (simp [st2]; done) | (simp [st2]; omega)) (fun b37 => ?_) (fun b37 => ?_)
    · refine g_return rfl dX3_shorten_73 ?_
      refine hk X2 (fun d j z1 z2 z3 => ?_) (fun k hk => ?_) (fun k hk => ?_) (fun p q hp hq => ?_)
      · rw [hfr d j z3, eY]
        simp only [st2, if_neg z1, if_neg z2]
      · rw [hfr _ k (by decide), eY]
        by_cases z : k = w
        · subst z
          simp [st2]
        · simp [st2, z]
          exact (hX.2.2.1 k hk).1
      · rw [hfr _ k (by decide), eY]
        by_cases z : k = w
        · subst z
          simp [st2]
        · simp [st2, z]
          exact (hX.2.2.1 k hk).2.1
      · rw [hT p q hp hq]
        by_cases z : q = x
        · rw [if_pos ⟨by omega, z⟩, if_pos z]
        · rw [if_neg (fun w => z w.2), if_neg z]
    · refine g_iload_n rfl dX3_shorten_40 ?_
      refine g_bipush (by decide) dX3_shorten_41 ?_
      refine g_imul dX3_shorten_43 ?_
      refine g_istore (by decide) dX3_shorten_44 ?_
      refine g_aload_n rfl dX3_shorten_46 ?_
      refine gf_X3_24 (c2 := 10) rfl rfl (by first | rfl | assumption) dX3_shorten_47 ?_
      refine g_iload rfl dX3_shorten_50 ?_
      refine g_iload_n rfl dX3_shorten_52 ?_
      refine g_iadd dX3_shorten_53 ?_
      refine g_dup2 rfl rfl dX3_shorten_54 ?_
      refine g_lald (n := 64) (8 * i + x) (by first | rfl | assumption) (by first | rfl | assumption) (by omega) (by first | omega | (simp [st2]; done) | (simp [st2]; omega)) (by first | omega | (simp [st2]; done) | (simp [st2]; omega)) dX3_shorten_55 ?_
      refine g_aload_n rfl dX3_shorten_56 ?_
      refine gf_X3_24 (c2 := 10) rfl rfl (by first | rfl | assumption) dX3_shorten_57 ?_
      refine g_iload rfl dX3_shorten_60 ?_
      refine g_iload_n rfl dX3_shorten_62 ?_
      refine g_iadd dX3_shorten_63 ?_
      refine g_lald (n := 64) (8 * i + w) (by first | rfl | assumption) (by first | rfl | assumption) (by omega) (by first | omega | (simp [st2]; done) | (simp [st2]; omega)) (by first | omega | (simp [st2]; done) | (simp [st2]; omega)) dX3_shorten_64 ?_
      refine g_ladd dX3_shorten_65 ?_
      refine g_last (n := 64) (8 * i + x) (by first | rfl | assumption) (by first | rfl | assumption) (by omega) (by first | omega | (simp [st2]; done) | (simp [st2]; omega)) (by first | omega | (simp [st2]; done) | (simp [st2]; omega)) dX3_shorten_66 ?_
      refine g_iinc rfl (by decide) dX3_shorten_67 ?_
      refine g_goto (t := 32) dX3_shorten_70 (by decide) ?_
      refine g_subl [(0, vR 5), (1, vI (w : Int)), (2, vI (x : Int)), (3, vI ((i + 1 : Nat) : Int))] rfl ?_
      have hT1 := hT i x (by omega) hx
      have hT2 := hT i w (by omega) hw
      rw [if_neg (by omega)] at hT1 hT2
      obtain ⟨n1, n2⟩ := tC_s (w := w) hn8 hx (by omega) hfr hT (show X2 10 (8 * i + x) + X2 10 (8 * i + w) = _ by rw [hT1, hT2])
      exact ih (i + 1) (by omega) (by omega) _ n1 n2
  refine g_aload_n rfl dX3_shorten_0 ?_
  refine gf_X3_9 (c2 := 6) rfl rfl (by first | rfl | assumption) dX3_shorten_1 ?_
  refine g_iload_n rfl dX3_shorten_4 ?_
  refine g_dup2 rfl rfl dX3_shorten_5 ?_
  refine g_iald (n := 8) (_) (by first | rfl | assumption) (by first | rfl | assumption) rfl (by first | omega | (simp [st2]; done) | (simp [st2]; omega)) (by first | omega | (simp [st2]; done) | (simp [st2]; omega)) dX3_shorten_6 ?_
  refine g_aload_n rfl dX3_shorten_7 ?_
  refine gf_X3_9 (c2 := 6) rfl rfl (by first | rfl | assumption) dX3_shorten_8 ?_
  refine g_iload_n rfl dX3_shorten_11 ?_
  refine g_iald (n := 8) (_) (by first | rfl | assumption) (by first | rfl | assumption) rfl (by first | omega | (simp [st2]; done) | (simp [st2]; omega)) (by first | omega | (simp [st2]; done) | (simp [st2]; omega)) dX3_shorten_12 ?_
  refine g_isub dX3_shorten_13 ?_
  rw [xwA, xxA]
  refine g_iast (n := 8) (_) (by first | rfl | assumption) (by first | rfl | assumption) rfl (by first | omega | (simp [st2]; done) | (simp [st2]; omega)) (by first | omega | (simp [st2]; done) | (simp [st2]; omega)) dX3_shorten_14 ?_
  refine g_aload_n rfl dX3_shorten_15 ?_
  refine gf_X3_15 (c2 := 7) rfl rfl (by first | rfl | assumption) dX3_shorten_16 ?_
  refine g_iload_n rfl dX3_shorten_19 ?_
  refine g_dup2 rfl rfl dX3_shorten_20 ?_
  refine g_iald (n := 8) (_) (by first | rfl | assumption) (by first | rfl | assumption) rfl (by first | omega | (simp [st2]; done) | (simp [st2]; omega)) (by first | omega | (simp [st2]; done) | (simp [st2]; omega)) dX3_shorten_21 ?_
  refine g_aload_n rfl dX3_shorten_22 ?_
  refine gf_X3_15 (c2 := 7) rfl rfl (by first | rfl | assumption) dX3_shorten_23 ?_
  refine g_iload_n rfl dX3_shorten_26 ?_
  refine g_iald (n := 8) (_) (by first | rfl | assumption) (by first | rfl | assumption) rfl (by first | omega | (simp [st2]; done) | (simp [st2]; omega)) (by first | omega | (simp [st2]; done) | (simp [st2]; omega)) dX3_shorten_27 ?_
  refine g_isub dX3_shorten_28 ?_
  rw [show st2 X 6 w (vA v w - vA v x) 7 w = vB v w from xwB, show st2 X 6 w (vA v w - vA v x) 7 x = vB v x from xxB]
  refine g_iast (n := 8) (_) (by first | rfl | assumption) (by first | rfl | assumption) rfl (by first | omega | (simp [st2]; done) | (simp [st2]; omega)) (by first | omega | (simp [st2]; done) | (simp [st2]; omega)) dX3_shorten_29 ?_
  refine g_iconst dX3_shorten_30 ?_
  refine g_istore_n (by decide) dX3_shorten_31 ?_
  refine g_mem eY.symm ?_
  refine g_subl [(0, vR 5), (1, vI (w : Int)), (2, vI (x : Int)), (3, vI ((0 : Nat) : Int))] rfl ?_
  exact loop 0 (by omega) Y (fun _ _ _ => rfl) (fun p q hp hq => by rw [y5, if_neg (by omega)]; exact hX.2.2.2 p q hp hq)
set_option maxRecDepth 100000 in
set_option maxHeartbeats 4000000 in
theorem ct_X3_isSpentBy_11 {l : Launch} {g : Geo} {X : Mm} {K : AV → Mm → Prop} {v : Mv} {w x : Nat} (hX : MvC X 11 v) (hv : Vd v) (hw : w < vn v) (hx : x < vn v) (h1 : spent v w x → K (vI 1) X) (h0 : ¬ spent v w x → K (vI 0) X) : Ct l g mX3_isSpentBy [vR 11, vI (w : Int), vI (x : Int)] X K := by
  refine enter (by decide) (Nat.le_of_ble_eq_true rfl) (fun κ => ?_)
  have hn8 := hv.2.1
  have x1 : X 11 0 = (vn v : Int) := hX.1
  have xwA : X 12 w = vA v w := (hX.2.2.1 _ hw).1
  have xwB : X 13 w = vB v w := (hX.2.2.1 _ hw).2.1
  have xxA : X 12 x = vA v x := (hX.2.2.1 _ hx).1
  have xxB : X 13 x = vB v x := (hX.2.2.1 _ hx).2.1
  have vW := hv.2.2.2.1 _ hw
  have vX := hv.2.2.2.1 _ hx
  have loop : ((-16384 ≤ vA v w - vA v x ∧ vA v w - vA v x ≤ 16384) ∧ (-16384 ≤ vB v w - vB v x ∧ vB v w - vB v x ≤ 16384)) → ∀ i : Nat, i ≤ vn v → (∀ p, p < i → vT v p x + vT v p w ≤ 1099511627776) → G l g mX3_isSpentBy κ K 50 [(0, vR 11), (1, vI (w : Int)), (2, vI (x : Int)), (3, vI (i : Int))] [] X := by
    intro hab
    refine upTo (vn v) ?_
    intro i hi ih hlt
    refine g_iload_n rfl dX3_isSpentBy_50 ?_
    refine g_aload_n rfl dX3_isSpentBy_51 ?_
    refine gf_X3_34 rfl (by first | rfl | assumption) dX3_isSpentBy_52 ?_
    refine g_icmp_ge (t := 98) dX3_isSpentBy_55 (by decide) (by first | omega | (simp [st2]; done) | (simp [st2]; omega)) (by first | omega | (simp [st2]; done) | (simp [st2]; omega)) (fun b55 => ?_) (fun b55 => ?_)
    · refine g_iconst dX3_isSpentBy_98 ?_
      refine g_zreturn rfl (by omega) dX3_isSpentBy_99 ?_
      refine h0 (fun q => ?_)
      rcases q with q | ⟨p, hp, q⟩
      · exact q hab
      · have := hlt p (by omega)
        omega
    · have t1 : X 16 (8 * i + x) = vT v i x := hX.2.2.2 i x (by omega) hx
      have t2 : X 16 (8 * i + w) = vT v i w := hX.2.2.2 i w (by omega) hw
      have b1 := hv.2.2.2.2.2.2 i x (by omega) hx
      have b2 := hv.2.2.2.2.2.2 i w (by omega) hw
      refine g_iload_n rfl dX3_isSpentBy_58 ?_
      refine g_bipush (by decide) dX3_isSpentBy_59 ?_
      refine g_imul dX3_isSpentBy_61 ?_
      refine g_istore (by decide) dX3_isSpentBy_62 ?_
      refine g_aload_n rfl dX3_isSpentBy_64 ?_
      refine gf_X3_24 (c2 := 16) rfl rfl (by first | rfl | assumption) dX3_isSpentBy_65 ?_
      refine g_iload rfl dX3_isSpentBy_68 ?_
      refine g_iload_n rfl dX3_isSpentBy_70 ?_
      refine g_iadd dX3_isSpentBy_71 ?_
      refine g_lald (n := 64) (8 * i + w) (by first | rfl | assumption) (by first | rfl | assumption) (by omega) (by first | omega | (simp [st2]; done) | (simp [st2]; omega)) (by first | omega | (simp [st2]; done) | (simp [st2]; omega)) dX3_isSpentBy_72 ?_
      refine g_aload_n rfl dX3_isSpentBy_73 ?_
      refine gf_X3_24 (c2 := 16) rfl rfl (by first | rfl | assumption) dX3_isSpentBy_74 ?_
      refine g_iload rfl dX3_isSpentBy_77 ?_
      refine g_iload_n rfl dX3_isSpentBy_79 ?_
      refine g_iadd dX3_isSpentBy_80 ?_
      refine g_lald (n := 64) (8 * i + x) (by first | rfl | assumption) (by first | rfl | assumption) (by omega) (by first | omega | (simp [st2]; done) | (simp [st2]; omega)) (by first | omega | (simp [st2]; done) | (simp [st2]; omega)) dX3_isSpentBy_81 ?_
      refine g_ladd dX3_isSpentBy_82 ?_
      refine g_ldc2 (n := (1099511627776)) kc_RX3_80 dX3_isSpentBy_83 ?_
      refine g_lle (t := 92) dX3_isSpentBy_86 dX3_isSpentBy_87 (by decide) (by first | omega | (simp [st2]; done) | (simp [st2]; omega)) (by first | omega | (simp [st2]; done) | (simp [st2]; omega)) (fun b86 => ?_) (fun b86 => ?_)
      · refine g_iinc rfl (by decide) dX3_isSpentBy_92 ?_
        refine g_goto (t := 50) dX3_isSpentBy_95 (by decide) ?_
        refine g_subl [(0, vR 11), (1, vI (w : Int)), (2, vI (x : Int)), (3, vI ((i + 1 : Nat) : Int))] rfl ?_
        refine ih (i + 1) (by omega) (by omega) (fun p hp => ?_)
        rcases Nat.lt_or_ge p i with z | z
        · exact hlt p z
        · rw [show p = i by omega]; omega
      · refine g_iconst dX3_isSpentBy_90 ?_
        refine g_zreturn rfl (by omega) dX3_isSpentBy_91 ?_
        exact h1 (Or.inr ⟨i, by omega, by omega⟩)
  refine g_aload_n rfl dX3_isSpentBy_0 ?_
  refine gf_X3_9 (c2 := 12) rfl rfl (by first | rfl | assumption) dX3_isSpentBy_1 ?_
  refine g_iload_n rfl dX3_isSpentBy_4 ?_
  refine g_iald (n := 8) (_) (by first | rfl | assumption) (by first | rfl | assumption) rfl (by first | omega | (simp [st2]; done) | (simp [st2]; omega)) (by first | omega | (simp [st2]; done) | (simp [st2]; omega)) dX3_isSpentBy_5 ?_
  refine g_aload_n rfl dX3_isSpentBy_6 ?_
  refine gf_X3_9 (c2 := 12) rfl rfl (by first | rfl | assumption) dX3_isSpentBy_7 ?_
  refine g_iload_n rfl dX3_isSpentBy_10 ?_
  refine g_iald (n := 8) (_) (by first | rfl | assumption) (by first | rfl | assumption) rfl (by first | omega | (simp [st2]; done) | (simp [st2]; omega)) (by first | omega | (simp [st2]; done) | (simp [st2]; omega)) dX3_isSpentBy_11 ?_
  refine g_isub dX3_isSpentBy_12 ?_
  refine g_i2l (by first | omega | (simp [st2]; done) | (simp [st2]; omega)) dX3_isSpentBy_13 ?_
  refine g_sipush (by decide) dX3_isSpentBy_14 ?_
  refine g_cn2 (M2 := mX7_isWithin) dX3_isSpentBy_17 nest4 kX7_isWithin (by decide) (by unfold Rm; decide) (Nat.le_of_ble_eq_true rfl) (ct_X7_isWithin (by omega) (by omega) ?_)
  refine g_if_eq (t := 46) dX3_isSpentBy_20 (by decide) (by first | omega | (simp [st2]; done) | (simp [st2]; omega)) (fun b20 => ?_) (fun b20 => ?_)
  · refine g_iconst dX3_isSpentBy_46 ?_
    refine g_zreturn rfl (by omega) dX3_isSpentBy_47 ?_
    exact h1 (Or.inl (by omega))
  · refine g_aload_n rfl dX3_isSpentBy_23 ?_
    refine gf_X3_15 (c2 := 13) rfl rfl (by first | rfl | assumption) dX3_isSpentBy_24 ?_
    refine g_iload_n rfl dX3_isSpentBy_27 ?_
    refine g_iald (n := 8) (_) (by first | rfl | assumption) (by first | rfl | assumption) rfl (by first | omega | (simp [st2]; done) | (simp [st2]; omega)) (by first | omega | (simp [st2]; done) | (simp [st2]; omega)) dX3_isSpentBy_28 ?_
    refine g_aload_n rfl dX3_isSpentBy_29 ?_
    refine gf_X3_15 (c2 := 13) rfl rfl (by first | rfl | assumption) dX3_isSpentBy_30 ?_
    refine g_iload_n rfl dX3_isSpentBy_33 ?_
    refine g_iald (n := 8) (_) (by first | rfl | assumption) (by first | rfl | assumption) rfl (by first | omega | (simp [st2]; done) | (simp [st2]; omega)) (by first | omega | (simp [st2]; done) | (simp [st2]; omega)) dX3_isSpentBy_34 ?_
    refine g_isub dX3_isSpentBy_35 ?_
    refine g_i2l (by first | omega | (simp [st2]; done) | (simp [st2]; omega)) dX3_isSpentBy_36 ?_
    refine g_sipush (by decide) dX3_isSpentBy_37 ?_
    refine g_cn2 (M2 := mX7_isWithin) dX3_isSpentBy_40 nest4 kX7_isWithin (by decide) (by unfold Rm; decide) (Nat.le_of_ble_eq_true rfl) (ct_X7_isWithin (by omega) (by omega) ?_)
    refine g_if_ne (t := 48) dX3_isSpentBy_43 (by decide) (by first | omega | (simp [st2]; done) | (simp [st2]; omega)) (fun b43 => ?_) (fun b43 => ?_)
    · refine g_iconst dX3_isSpentBy_48 ?_
      refine g_istore_n (by decide) dX3_isSpentBy_49 ?_
      refine g_subl [(0, vR 11), (1, vI (w : Int)), (2, vI (x : Int)), (3, vI ((0 : Nat) : Int))] rfl ?_
      exact loop (by omega) 0 (by omega) (fun p hp => absurd hp (by omega))
    · refine g_iconst dX3_isSpentBy_46 ?_
      refine g_zreturn rfl (by omega) dX3_isSpentBy_47 ?_
      exact h1 (Or.inl (by omega))
set_option maxRecDepth 100000 in
set_option maxHeartbeats 4000000 in
theorem ct_X3_shorten_11 {l : Launch} {g : Geo} {X : Mm} {K : AV → Mm → Prop} {v : Mv} {w x : Nat} (hX : MvC X 11 v) (hv : Vd v) (hw : w < vn v) (hx : x < vn v) (hwx : w ≠ x) (hk : ∀ X2 : Mm, (∀ d j, d ≠ 12 → d ≠ 13 → d ≠ 16 → X2 d j = X d j) → (∀ k, k < vn v → X2 12 k = if k = w then vA v w - vA v x else vA v k) → (∀ k, k < vn v → X2 13 k = if k = w then vB v w - vB v x else vB v k) → (∀ i j, i < vn v → j < vn v → X2 16 (8 * i + j) = if j = x then vT v i x + vT v i w else vT v i j) → K (vI 0) X2) : Ct l g mX3_shorten [vR 11, vI (w : Int), vI (x : Int)] X K := by
  refine enter (by decide) (Nat.le_of_ble_eq_true rfl) (fun κ => ?_)
  have hn8 := hv.2.1
  have x1 : X 11 0 = (vn v : Int) := hX.1
  have xwA : X 12 w = vA v w := (hX.2.2.1 _ hw).1
  have xwB : X 13 w = vB v w := (hX.2.2.1 _ hw).2.1
  have xxA : X 12 x = vA v x := (hX.2.2.1 _ hx).1
  have xxB : X 13 x = vB v x := (hX.2.2.1 _ hx).2.1
  obtain ⟨Y, eY⟩ : ∃ Y, Y = st2 (st2 X 12 w (vA v w - vA v x)) 13 w (vB v w - vB v x) := ⟨_, rfl⟩
  have y5 : ∀ j, Y 16 j = X 16 j := fun j => by rw [eY]; rfl
  have y0 : Y 11 0 = (vn v : Int) := by rw [eY]; exact x1
  have loop : ∀ i : Nat, i ≤ vn v → ∀ X2 : Mm, (∀ d j, d ≠ 16 → X2 d j = Y d j) → (∀ p q, p < vn v → q < vn v → X2 16 (8 * p + q) = if p < i ∧ q = x then vT v p x + vT v p w else vT v p q) → G l g mX3_shorten κ K 32 [(0, vR 11), (1, vI (w : Int)), (2, vI (x : Int)), (3, vI (i : Int))] [] X2 := by
    refine upTo (vn v) ?_
    intro i hi ih X2 hfr hT
    have z5 : X2 11 0 = (vn v : Int) := by rw [hfr 11 0 (by decide)]; exact y0
    refine g_iload_n rfl dX3_shorten_32 ?_
    refine g_aload_n rfl dX3_shorten_33 ?_
    refine gf_X3_34 rfl (by first | rfl | assumption) dX3_shorten_34 ?_
    refine g_icmp_ge (t := 73) dX3_shorten_37 (by decide) (by first | omega | (simp [st2]; done) | (simp [st2]; omega)) (by first | omega | (simp [st2]; done) | (simp [st2]; omega)) (fun b37 => ?_) (fun b37 => ?_)
    · refine g_return rfl dX3_shorten_73 ?_
      refine hk X2 (fun d j z1 z2 z3 => ?_) (fun k hk => ?_) (fun k hk => ?_) (fun p q hp hq => ?_)
      · rw [hfr d j z3, eY]
        simp only [st2, if_neg z1, if_neg z2]
      · rw [hfr _ k (by decide), eY]
        by_cases z : k = w
        · subst z
          simp [st2]
        · simp [st2, z]
          exact (hX.2.2.1 k hk).1
      · rw [hfr _ k (by decide), eY]
        by_cases z : k = w
        · subst z
          simp [st2]
        · simp [st2, z]
          exact (hX.2.2.1 k hk).2.1
      · rw [hT p q hp hq]
        by_cases z : q = x
        · rw [if_pos ⟨by omega, z⟩, if_pos z]
        · rw [if_neg (fun w => z w.2), if_neg z]
    · refine g_iload_n rfl dX3_shorten_40 ?_
      refine g_bipush (by decide) dX3_shorten_41 ?_
      refine g_imul dX3_shorten_43 ?_
      refine g_istore (by decide) dX3_shorten_44 ?_
      refine g_aload_n rfl dX3_shorten_46 ?_
      refine gf_X3_24 (c2 := 16) rfl rfl (by first | rfl | assumption) dX3_shorten_47 ?_
      refine g_iload rfl dX3_shorten_50 ?_
      refine g_iload_n rfl dX3_shorten_52 ?_
      refine g_iadd dX3_shorten_53 ?_
      refine g_dup2 rfl rfl dX3_shorten_54 ?_
      refine g_lald (n := 64) (8 * i + x) (by first | rfl | assumption) (by first | rfl | assumption) (by omega) (by first | omega | (simp [st2]; done) | (simp [st2]; omega)) (by first | omega | (simp [st2]; done) | (simp [st2]; omega)) dX3_shorten_55 ?_
      refine g_aload_n rfl dX3_shorten_56 ?_
      refine gf_X3_24 (c2 := 16) rfl rfl (by first | rfl | assumption) dX3_shorten_57 ?_
      refine g_iload rfl dX3_shorten_60 ?_
      refine g_iload_n rfl dX3_shorten_62 ?_
      refine g_iadd dX3_shorten_63 ?_
      refine g_lald (n := 64) (8 * i + w) (by first | rfl | assumption) (by first | rfl | assumption) (by omega) (by first | omega | (simp [st2]; done) | (simp [st2]; omega)) (by first | omega | (simp [st2]; done) | (simp [st2]; omega)) dX3_shorten_64 ?_
      refine g_ladd dX3_shorten_65 ?_
      refine g_last (n := 64) (8 * i + x) (by first | rfl | assumption) (by first | rfl | assumption) (by omega) (by first | omega | (simp [st2]; done) | (simp [st2]; omega)) (by first | omega | (simp [st2]; done) | (simp [st2]; omega)) dX3_shorten_66 ?_
      refine g_iinc rfl (by decide) dX3_shorten_67 ?_
      refine g_goto (t := 32) dX3_shorten_70 (by decide) ?_
      refine g_subl [(0, vR 11), (1, vI (w : Int)), (2, vI (x : Int)), (3, vI ((i + 1 : Nat) : Int))] rfl ?_
      have hT1 := hT i x (by omega) hx
      have hT2 := hT i w (by omega) hw
      rw [if_neg (by omega)] at hT1 hT2
      obtain ⟨n1, n2⟩ := tC_s (w := w) hn8 hx (by omega) hfr hT (show X2 16 (8 * i + x) + X2 16 (8 * i + w) = _ by rw [hT1, hT2])
      exact ih (i + 1) (by omega) (by omega) _ n1 n2
  refine g_aload_n rfl dX3_shorten_0 ?_
  refine gf_X3_9 (c2 := 12) rfl rfl (by first | rfl | assumption) dX3_shorten_1 ?_
  refine g_iload_n rfl dX3_shorten_4 ?_
  refine g_dup2 rfl rfl dX3_shorten_5 ?_
  refine g_iald (n := 8) (_) (by first | rfl | assumption) (by first | rfl | assumption) rfl (by first | omega | (simp [st2]; done) | (simp [st2]; omega)) (by first | omega | (simp [st2]; done) | (simp [st2]; omega)) dX3_shorten_6 ?_
  refine g_aload_n rfl dX3_shorten_7 ?_
  refine gf_X3_9 (c2 := 12) rfl rfl (by first | rfl | assumption) dX3_shorten_8 ?_
  refine g_iload_n rfl dX3_shorten_11 ?_
  refine g_iald (n := 8) (_) (by first | rfl | assumption) (by first | rfl | assumption) rfl (by first | omega | (simp [st2]; done) | (simp [st2]; omega)) (by first | omega | (simp [st2]; done) | (simp [st2]; omega)) dX3_shorten_12 ?_
  refine g_isub dX3_shorten_13 ?_
  rw [xwA, xxA]
  refine g_iast (n := 8) (_) (by first | rfl | assumption) (by first | rfl | assumption) rfl (by first | omega | (simp [st2]; done) | (simp [st2]; omega)) (by first | omega | (simp [st2]; done) | (simp [st2]; omega)) dX3_shorten_14 ?_
  refine g_aload_n rfl dX3_shorten_15 ?_
  refine gf_X3_15 (c2 := 13) rfl rfl (by first | rfl | assumption) dX3_shorten_16 ?_
  refine g_iload_n rfl dX3_shorten_19 ?_
  refine g_dup2 rfl rfl dX3_shorten_20 ?_
  refine g_iald (n := 8) (_) (by first | rfl | assumption) (by first | rfl | assumption) rfl (by first | omega | (simp [st2]; done) | (simp [st2]; omega)) (by first | omega | (simp [st2]; done) | (simp [st2]; omega)) dX3_shorten_21 ?_
  refine g_aload_n rfl dX3_shorten_22 ?_
  refine gf_X3_15 (c2 := 13) rfl rfl (by first | rfl | assumption) dX3_shorten_23 ?_
  refine g_iload_n rfl dX3_shorten_26 ?_
  refine g_iald (n := 8) (_) (by first | rfl | assumption) (by first | rfl | assumption) rfl (by first | omega | (simp [st2]; done) | (simp [st2]; omega)) (by first | omega | (simp [st2]; done) | (simp [st2]; omega)) dX3_shorten_27 ?_
  refine g_isub dX3_shorten_28 ?_
  rw [show st2 X 12 w (vA v w - vA v x) 13 w = vB v w from xwB, show st2 X 12 w (vA v w - vA v x) 13 x = vB v x from xxB]
  refine g_iast (n := 8) (_) (by first | rfl | assumption) (by first | rfl | assumption) rfl (by first | omega | (simp [st2]; done) | (simp [st2]; omega)) (by first | omega | (simp [st2]; done) | (simp [st2]; omega)) dX3_shorten_29 ?_
  refine g_iconst dX3_shorten_30 ?_
  refine g_istore_n (by decide) dX3_shorten_31 ?_
  refine g_mem eY.symm ?_
  refine g_subl [(0, vR 11), (1, vI (w : Int)), (2, vI (x : Int)), (3, vI ((0 : Nat) : Int))] rfl ?_
  exact loop 0 (by omega) Y (fun _ _ _ => rfl) (fun p q hp hq => by rw [y5, if_neg (by omega)]; exact hX.2.2.2 p q hp hq)
set_option maxRecDepth 100000 in
set_option maxHeartbeats 4000000 in
theorem ct_X3_bring_8 {l : Launch} {g : Geo} {X : Mm} {K : AV → Mm → Prop} {n w : Nat} {f : Nat → Nat} (hn : X 5 0 = (n : Int)) (hn8 : 2 ≤ n ∧ n ≤ 8) (hf : Perm f n) (ho : Rw X 8 n f) (hw : w < n) (hp : posI f w n + 1 < n) (hk : ∀ X2, (∀ d j, d ≠ 8 → X2 d j = X d j) → Rw X2 8 n (brg f (posI f w n) (f (n - 1))) → K (vI 0) X2) : Ct l g mX3_bringLastBehind [vR 5, vI (w : Int), vR 8] X K := by
  refine enter (by decide) (Nat.le_of_ble_eq_true rfl) (fun κ => ?_)
  obtain ⟨p, ep⟩ : ∃ p, p = posI f w n := ⟨_, rfl⟩
  have hps := posI_spec hf hw
  rw [← ep] at hp hk hps
  have el : X 8 (n - 1) = (f (n - 1) : Int) := ho _ (by omega)
  have loop2 : ∀ e : Nat, e ≤ n - 2 - p → ∀ X2 : Mm, (∀ d j, d ≠ 8 → X2 d j = X d j) → (∀ q, q < n → X2 8 q = ((if n - 1 - e < q then f (q - 1) else f q : Nat) : Int)) → G l g mX3_bringLastBehind κ K 17 [(0, vR 5), (1, vI (w : Int)), (2, vR 8), (3, vI (f (n - 1) : Int)), (4, vI ((n - 1 - e : Nat) : Int))] [] X2 := by
    refine upTo (n - 2 - p) ?_
    intro e he ih X2 hfr hrow
    have hr1 := hrow (n - 1 - e - 1) (by omega)
    rw [if_neg (by omega)] at hr1
    have hfl := hf.1 (n - 1 - e - 1) (by omega)
    refine g_iload rfl dX3_bringLastBehind_17 ?_
    refine g_if_le (t := 48) dX3_bringLastBehind_19 (by decide) (by first | omega | (simp [st2]; done) | (simp [st2]; omega)) (fun b19 => ?_) (fun b19 => ?_)
    · exfalso; omega
    · refine g_aload_n rfl dX3_bringLastBehind_22 ?_
      refine g_iload rfl dX3_bringLastBehind_23 ?_
      refine g_iconst dX3_bringLastBehind_25 ?_
      refine g_isub dX3_bringLastBehind_26 ?_
      refine g_iald (n := 8) (n - 1 - e - 1) (by first | rfl | assumption) (by first | rfl | assumption) (by omega) (by first | omega | (simp [st2]; done) | (simp [st2]; omega)) (by first | omega | (simp [st2]; done) | (simp [st2]; omega)) dX3_bringLastBehind_27 ?_
      refine g_iload_n rfl dX3_bringLastBehind_28 ?_
      refine g_icmp_eq (t := 48) dX3_bringLastBehind_29 (by decide) (by first | omega | (simp [st2]; done) | (simp [st2]; omega)) (by first | omega | (simp [st2]; done) | (simp [st2]; omega)) (fun b29 => ?_) (fun b29 => ?_)
      · have c3 : n - 1 - e - 1 = p := hf.2 _ _ (by omega) hps.1 (by omega)
        refine g_aload_n rfl dX3_bringLastBehind_48 ?_
        refine g_iload rfl dX3_bringLastBehind_49 ?_
        refine g_iload_n rfl dX3_bringLastBehind_51 ?_
        refine g_iast (n := 8) (p + 1) (by first | rfl | assumption) (by first | rfl | assumption) (by omega) (by first | omega | (simp [st2]; done) | (simp [st2]; omega)) (by first | omega | (simp [st2]; done) | (simp [st2]; omega)) dX3_bringLastBehind_52 ?_
        refine g_return rfl dX3_bringLastBehind_53 ?_
        refine hk _ (fun d j hd => by simp only [st2, if_neg hd]; exact hfr d j hd) (fun q hq => ?_)
        unfold brg
        by_cases c1 : q = p + 1
        · subst c1
          rw [if_neg (by omega), if_pos rfl]
          simp only [st2, if_true]
        · simp only [st2, if_true, if_neg c1]
          rw [hrow q hq]
          by_cases c2 : q ≤ p
          · rw [if_neg (by omega), if_pos c2]
          · rw [if_pos (by omega), if_neg c2]
      · have c3 : n - 1 - e - 1 ≠ p := fun z => b29 (by rw [hr1, z, hps.2])
        refine g_aload_n rfl dX3_bringLastBehind_32 ?_
        refine g_iload rfl dX3_bringLastBehind_33 ?_
        refine g_aload_n rfl dX3_bringLastBehind_35 ?_
        refine g_iload rfl dX3_bringLastBehind_36 ?_
        refine g_iconst dX3_bringLastBehind_38 ?_
        refine g_isub dX3_bringLastBehind_39 ?_
        refine g_iald (n := 8) (n - 1 - e - 1) (by first | rfl | assumption) (by first | rfl | assumption) (by omega) (by first | omega | (simp [st2]; done) | (simp [st2]; omega)) (by first | omega | (simp [st2]; done) | (simp [st2]; omega)) dX3_bringLastBehind_40 ?_
        refine g_iast (n := 8) (n - 1 - e) (by first | rfl | assumption) (by first | rfl | assumption) (by omega) (by first | omega | (simp [st2]; done) | (simp [st2]; omega)) (by first | omega | (simp [st2]; done) | (simp [st2]; omega)) dX3_bringLastBehind_41 ?_
        refine g_iinc rfl (by decide) dX3_bringLastBehind_42 ?_
        refine g_goto (t := 17) dX3_bringLastBehind_45 (by decide) ?_
        refine g_subl [(0, vR 5), (1, vI (w : Int)), (2, vR 8), (3, vI (f (n - 1) : Int)), (4, vI ((n - 1 - (e + 1) : Nat) : Int))] (by
          rw [show ((n - 1 - (e + 1) : Nat) : Int) = ((n - 1 - e : Nat) : Int) + (-1) by omega]; rfl) ?_
        refine ih (e + 1) (by omega) (by omega) _ (fun d j hd => by simp only [st2, if_neg hd]; exact hfr d j hd) (fun q hq => ?_)
        by_cases c1 : q = n - 1 - e
        · subst c1
          rw [if_pos (by omega)]
          simp only [st2, if_true]
          exact hr1
        · simp only [st2, if_true, if_neg c1]
          rw [hrow q hq]
          by_cases c2 : n - 1 - e < q
          · rw [if_pos c2, if_pos (by omega)]
          · rw [if_neg c2, if_neg (by omega)]
  refine g_aload_n rfl dX3_bringLastBehind_0 ?_
  refine g_aload_n rfl dX3_bringLastBehind_1 ?_
  refine gf_X3_34 rfl (by first | rfl | assumption) dX3_bringLastBehind_2 ?_
  refine g_iconst dX3_bringLastBehind_5 ?_
  refine g_isub dX3_bringLastBehind_6 ?_
  refine g_iald (n := 8) (n - 1) (by first | rfl | assumption) (by first | rfl | assumption) (by omega) (by first | omega | (simp [st2]; done) | (simp [st2]; omega)) (by first | omega | (simp [st2]; done) | (simp [st2]; omega)) dX3_bringLastBehind_7 ?_
  rw [el]
  refine g_istore_n (by decide) dX3_bringLastBehind_8 ?_
  refine g_aload_n rfl dX3_bringLastBehind_9 ?_
  refine gf_X3_34 rfl (by first | rfl | assumption) dX3_bringLastBehind_10 ?_
  refine g_iconst dX3_bringLastBehind_13 ?_
  refine g_isub dX3_bringLastBehind_14 ?_
  refine g_istore (by decide) dX3_bringLastBehind_15 ?_
  refine g_subl [(0, vR 5), (1, vI (w : Int)), (2, vR 8), (3, vI (f (n - 1) : Int)), (4, vI ((n - 1 - 0 : Nat) : Int))] (by
    rw [show ((n - 1 - 0 : Nat) : Int) = X 5 0 - 1 by omega]; rfl) ?_
  exact loop2 0 (by omega) X (fun _ _ _ => rfl) (fun q hq => by rw [if_neg (by omega)]; exact ho q hq)
set_option maxRecDepth 100000 in
set_option maxHeartbeats 4000000 in
theorem ct_X3_bring_9 {l : Launch} {g : Geo} {X : Mm} {K : AV → Mm → Prop} {n w : Nat} {f : Nat → Nat} (hn : X 5 0 = (n : Int)) (hn8 : 2 ≤ n ∧ n ≤ 8) (hf : Perm f n) (ho : Rw X 9 n f) (hw : w < n) (hp : posI f w n + 1 < n) (hk : ∀ X2, (∀ d j, d ≠ 9 → X2 d j = X d j) → Rw X2 9 n (brg f (posI f w n) (f (n - 1))) → K (vI 0) X2) : Ct l g mX3_bringLastBehind [vR 5, vI (w : Int), vR 9] X K := by
  refine enter (by decide) (Nat.le_of_ble_eq_true rfl) (fun κ => ?_)
  obtain ⟨p, ep⟩ : ∃ p, p = posI f w n := ⟨_, rfl⟩
  have hps := posI_spec hf hw
  rw [← ep] at hp hk hps
  have el : X 9 (n - 1) = (f (n - 1) : Int) := ho _ (by omega)
  have loop2 : ∀ e : Nat, e ≤ n - 2 - p → ∀ X2 : Mm, (∀ d j, d ≠ 9 → X2 d j = X d j) → (∀ q, q < n → X2 9 q = ((if n - 1 - e < q then f (q - 1) else f q : Nat) : Int)) → G l g mX3_bringLastBehind κ K 17 [(0, vR 5), (1, vI (w : Int)), (2, vR 9), (3, vI (f (n - 1) : Int)), (4, vI ((n - 1 - e : Nat) : Int))] [] X2 := by
    refine upTo (n - 2 - p) ?_
    intro e he ih X2 hfr hrow
    have hr1 := hrow (n - 1 - e - 1) (by omega)
    rw [if_neg (by omega)] at hr1
    have hfl := hf.1 (n - 1 - e - 1) (by omega)
    refine g_iload rfl dX3_bringLastBehind_17 ?_
    refine g_if_le (t := 48) dX3_bringLastBehind_19 (by decide) (by first | omega | (simp [st2]; done) | (simp [st2]; omega)) (fun b19 => ?_) (fun b19 => ?_)
    · exfalso; omega
    · refine g_aload_n rfl dX3_bringLastBehind_22 ?_
      refine g_iload rfl dX3_bringLastBehind_23 ?_
      refine g_iconst dX3_bringLastBehind_25 ?_
      refine g_isub dX3_bringLastBehind_26 ?_
      refine g_iald (n := 8) (n - 1 - e - 1) (by first | rfl | assumption) (by first | rfl | assumption) (by omega) (by first | omega | (simp [st2]; done) | (simp [st2]; omega)) (by first | omega | (simp [st2]; done) | (simp [st2]; omega)) dX3_bringLastBehind_27 ?_
      refine g_iload_n rfl dX3_bringLastBehind_28 ?_
      refine g_icmp_eq (t := 48) dX3_bringLastBehind_29 (by decide) (by first | omega | (simp [st2]; done) | (simp [st2]; omega)) (by first | omega | (simp [st2]; done) | (simp [st2]; omega)) (fun b29 => ?_) (fun b29 => ?_)
      · have c3 : n - 1 - e - 1 = p := hf.2 _ _ (by omega) hps.1 (by omega)
        refine g_aload_n rfl dX3_bringLastBehind_48 ?_
        refine g_iload rfl dX3_bringLastBehind_49 ?_
        refine g_iload_n rfl dX3_bringLastBehind_51 ?_
        refine g_iast (n := 8) (p + 1) (by first | rfl | assumption) (by first | rfl | assumption) (by omega) (by first | omega | (simp [st2]; done) | (simp [st2]; omega)) (by first | omega | (simp [st2]; done) | (simp [st2]; omega)) dX3_bringLastBehind_52 ?_
        refine g_return rfl dX3_bringLastBehind_53 ?_
        refine hk _ (fun d j hd => by simp only [st2, if_neg hd]; exact hfr d j hd) (fun q hq => ?_)
        unfold brg
        by_cases c1 : q = p + 1
        · subst c1
          rw [if_neg (by omega), if_pos rfl]
          simp only [st2, if_true]
        · simp only [st2, if_true, if_neg c1]
          rw [hrow q hq]
          by_cases c2 : q ≤ p
          · rw [if_neg (by omega), if_pos c2]
          · rw [if_pos (by omega), if_neg c2]
      · have c3 : n - 1 - e - 1 ≠ p := fun z => b29 (by rw [hr1, z, hps.2])
        refine g_aload_n rfl dX3_bringLastBehind_32 ?_
        refine g_iload rfl dX3_bringLastBehind_33 ?_
        refine g_aload_n rfl dX3_bringLastBehind_35 ?_
        refine g_iload rfl dX3_bringLastBehind_36 ?_
        refine g_iconst dX3_bringLastBehind_38 ?_
        refine g_isub dX3_bringLastBehind_39 ?_
        refine g_iald (n := 8) (n - 1 - e - 1) (by first | rfl | assumption) (by first | rfl | assumption) (by omega) (by first | omega | (simp [st2]; done) | (simp [st2]; omega)) (by first | omega | (simp [st2]; done) | (simp [st2]; omega)) dX3_bringLastBehind_40 ?_
        refine g_iast (n := 8) (n - 1 - e) (by first | rfl | assumption) (by first | rfl | assumption) (by omega) (by first | omega | (simp [st2]; done) | (simp [st2]; omega)) (by first | omega | (simp [st2]; done) | (simp [st2]; omega)) dX3_bringLastBehind_41 ?_
        refine g_iinc rfl (by decide) dX3_bringLastBehind_42 ?_
        refine g_goto (t := 17) dX3_bringLastBehind_45 (by decide) ?_
        refine g_subl [(0, vR 5), (1, vI (w : Int)), (2, vR 9), (3, vI (f (n - 1) : Int)), (4, vI ((n - 1 - (e + 1) : Nat) : Int))] (by
          rw [show ((n - 1 - (e + 1) : Nat) : Int) = ((n - 1 - e : Nat) : Int) + (-1) by omega]; rfl) ?_
        refine ih (e + 1) (by omega) (by omega) _ (fun d j hd => by simp only [st2, if_neg hd]; exact hfr d j hd) (fun q hq => ?_)
        by_cases c1 : q = n - 1 - e
        · subst c1
          rw [if_pos (by omega)]
          simp only [st2, if_true]
          exact hr1
        · simp only [st2, if_true, if_neg c1]
          rw [hrow q hq]
          by_cases c2 : n - 1 - e < q
          · rw [if_pos c2, if_pos (by omega)]
          · rw [if_neg c2, if_neg (by omega)]
  refine g_aload_n rfl dX3_bringLastBehind_0 ?_
  refine g_aload_n rfl dX3_bringLastBehind_1 ?_
  refine gf_X3_34 rfl (by first | rfl | assumption) dX3_bringLastBehind_2 ?_
  refine g_iconst dX3_bringLastBehind_5 ?_
  refine g_isub dX3_bringLastBehind_6 ?_
  refine g_iald (n := 8) (n - 1) (by first | rfl | assumption) (by first | rfl | assumption) (by omega) (by first | omega | (simp [st2]; done) | (simp [st2]; omega)) (by first | omega | (simp [st2]; done) | (simp [st2]; omega)) dX3_bringLastBehind_7 ?_
  rw [el]
  refine g_istore_n (by decide) dX3_bringLastBehind_8 ?_
  refine g_aload_n rfl dX3_bringLastBehind_9 ?_
  refine gf_X3_34 rfl (by first | rfl | assumption) dX3_bringLastBehind_10 ?_
  refine g_iconst dX3_bringLastBehind_13 ?_
  refine g_isub dX3_bringLastBehind_14 ?_
  refine g_istore (by decide) dX3_bringLastBehind_15 ?_
  refine g_subl [(0, vR 5), (1, vI (w : Int)), (2, vR 9), (3, vI (f (n - 1) : Int)), (4, vI ((n - 1 - 0 : Nat) : Int))] (by
    rw [show ((n - 1 - 0 : Nat) : Int) = X 5 0 - 1 by omega]; rfl) ?_
  exact loop2 0 (by omega) X (fun _ _ _ => rfl) (fun q hq => by rw [if_neg (by omega)]; exact ho q hq)
set_option maxRecDepth 100000 in
set_option maxHeartbeats 4000000 in
theorem ct_X3_bring_14 {l : Launch} {g : Geo} {X : Mm} {K : AV → Mm → Prop} {n w : Nat} {f : Nat → Nat} (hn : X 11 0 = (n : Int)) (hn8 : 2 ≤ n ∧ n ≤ 8) (hf : Perm f n) (ho : Rw X 14 n f) (hw : w < n) (hp : posI f w n + 1 < n) (hk : ∀ X2, (∀ d j, d ≠ 14 → X2 d j = X d j) → Rw X2 14 n (brg f (posI f w n) (f (n - 1))) → K (vI 0) X2) : Ct l g mX3_bringLastBehind [vR 11, vI (w : Int), vR 14] X K := by
  refine enter (by decide) (Nat.le_of_ble_eq_true rfl) (fun κ => ?_)
  obtain ⟨p, ep⟩ : ∃ p, p = posI f w n := ⟨_, rfl⟩
  have hps := posI_spec hf hw
  rw [← ep] at hp hk hps
  have el : X 14 (n - 1) = (f (n - 1) : Int) := ho _ (by omega)
  have loop2 : ∀ e : Nat, e ≤ n - 2 - p → ∀ X2 : Mm, (∀ d j, d ≠ 14 → X2 d j = X d j) → (∀ q, q < n → X2 14 q = ((if n - 1 - e < q then f (q - 1) else f q : Nat) : Int)) → G l g mX3_bringLastBehind κ K 17 [(0, vR 11), (1, vI (w : Int)), (2, vR 14), (3, vI (f (n - 1) : Int)), (4, vI ((n - 1 - e : Nat) : Int))] [] X2 := by
    refine upTo (n - 2 - p) ?_
    intro e he ih X2 hfr hrow
    have hr1 := hrow (n - 1 - e - 1) (by omega)
    rw [if_neg (by omega)] at hr1
    have hfl := hf.1 (n - 1 - e - 1) (by omega)
    refine g_iload rfl dX3_bringLastBehind_17 ?_
    refine g_if_le (t := 48) dX3_bringLastBehind_19 (by decide) (by first | omega | (simp [st2]; done) | (simp [st2]; omega)) (fun b19 => ?_) (fun b19 => ?_)
    · exfalso; omega
    · refine g_aload_n rfl dX3_bringLastBehind_22 ?_
      refine g_iload rfl dX3_bringLastBehind_23 ?_
      refine g_iconst dX3_bringLastBehind_25 ?_
      refine g_isub dX3_bringLastBehind_26 ?_
      refine g_iald (n := 8) (n - 1 - e - 1) (by first | rfl | assumption) (by first | rfl | assumption) (by omega) (by first | omega | (simp [st2]; done) | (simp [st2]; omega)) (by first | omega | (simp [st2]; done) | (simp [st2]; omega)) dX3_bringLastBehind_27 ?_
      refine g_iload_n rfl dX3_bringLastBehind_28 ?_
      refine g_icmp_eq (t := 48) dX3_bringLastBehind_29 (by decide) (by first | omega | (simp [st2]; done) | (simp [st2]; omega)) (by first | omega | (simp [st2]; done) | (simp [st2]; omega)) (fun b29 => ?_) (fun b29 => ?_)
      · have c3 : n - 1 - e - 1 = p := hf.2 _ _ (by omega) hps.1 (by omega)
        refine g_aload_n rfl dX3_bringLastBehind_48 ?_
        refine g_iload rfl dX3_bringLastBehind_49 ?_
        refine g_iload_n rfl dX3_bringLastBehind_51 ?_
        refine g_iast (n := 8) (p + 1) (by first | rfl | assumption) (by first | rfl | assumption) (by omega) (by first | omega | (simp [st2]; done) | (simp [st2]; omega)) (by first | omega | (simp [st2]; done) | (simp [st2]; omega)) dX3_bringLastBehind_52 ?_
        refine g_return rfl dX3_bringLastBehind_53 ?_
        refine hk _ (fun d j hd => by simp only [st2, if_neg hd]; exact hfr d j hd) (fun q hq => ?_)
        unfold brg
        by_cases c1 : q = p + 1
        · subst c1
          rw [if_neg (by omega), if_pos rfl]
          simp only [st2, if_true]
        · simp only [st2, if_true, if_neg c1]
          rw [hrow q hq]
          by_cases c2 : q ≤ p
          · rw [if_neg (by omega), if_pos c2]
          · rw [if_pos (by omega), if_neg c2]
      · have c3 : n - 1 - e - 1 ≠ p := fun z => b29 (by rw [hr1, z, hps.2])
        refine g_aload_n rfl dX3_bringLastBehind_32 ?_
        refine g_iload rfl dX3_bringLastBehind_33 ?_
        refine g_aload_n rfl dX3_bringLastBehind_35 ?_
        refine g_iload rfl dX3_bringLastBehind_36 ?_
        refine g_iconst dX3_bringLastBehind_38 ?_
        refine g_isub dX3_bringLastBehind_39 ?_
        refine g_iald (n := 8) (n - 1 - e - 1) (by first | rfl | assumption) (by first | rfl | assumption) (by omega) (by first | omega | (simp [st2]; done) | (simp [st2]; omega)) (by first | omega | (simp [st2]; done) | (simp [st2]; omega)) dX3_bringLastBehind_40 ?_
        refine g_iast (n := 8) (n - 1 - e) (by first | rfl | assumption) (by first | rfl | assumption) (by omega) (by first | omega | (simp [st2]; done) | (simp [st2]; omega)) (by first | omega | (simp [st2]; done) | (simp [st2]; omega)) dX3_bringLastBehind_41 ?_
        refine g_iinc rfl (by decide) dX3_bringLastBehind_42 ?_
        refine g_goto (t := 17) dX3_bringLastBehind_45 (by decide) ?_
        refine g_subl [(0, vR 11), (1, vI (w : Int)), (2, vR 14), (3, vI (f (n - 1) : Int)), (4, vI ((n - 1 - (e + 1) : Nat) : Int))] (by
          rw [show ((n - 1 - (e + 1) : Nat) : Int) = ((n - 1 - e : Nat) : Int) + (-1) by omega]; rfl) ?_
        refine ih (e + 1) (by omega) (by omega) _ (fun d j hd => by simp only [st2, if_neg hd]; exact hfr d j hd) (fun q hq => ?_)
        by_cases c1 : q = n - 1 - e
        · subst c1
          rw [if_pos (by omega)]
          simp only [st2, if_true]
          exact hr1
        · simp only [st2, if_true, if_neg c1]
          rw [hrow q hq]
          by_cases c2 : n - 1 - e < q
          · rw [if_pos c2, if_pos (by omega)]
          · rw [if_neg c2, if_neg (by omega)]
  refine g_aload_n rfl dX3_bringLastBehind_0 ?_
  refine g_aload_n rfl dX3_bringLastBehind_1 ?_
  refine gf_X3_34 rfl (by first | rfl | assumption) dX3_bringLastBehind_2 ?_
  refine g_iconst dX3_bringLastBehind_5 ?_
  refine g_isub dX3_bringLastBehind_6 ?_
  refine g_iald (n := 8) (n - 1) (by first | rfl | assumption) (by first | rfl | assumption) (by omega) (by first | omega | (simp [st2]; done) | (simp [st2]; omega)) (by first | omega | (simp [st2]; done) | (simp [st2]; omega)) dX3_bringLastBehind_7 ?_
  rw [el]
  refine g_istore_n (by decide) dX3_bringLastBehind_8 ?_
  refine g_aload_n rfl dX3_bringLastBehind_9 ?_
  refine gf_X3_34 rfl (by first | rfl | assumption) dX3_bringLastBehind_10 ?_
  refine g_iconst dX3_bringLastBehind_13 ?_
  refine g_isub dX3_bringLastBehind_14 ?_
  refine g_istore (by decide) dX3_bringLastBehind_15 ?_
  refine g_subl [(0, vR 11), (1, vI (w : Int)), (2, vR 14), (3, vI (f (n - 1) : Int)), (4, vI ((n - 1 - 0 : Nat) : Int))] (by
    rw [show ((n - 1 - 0 : Nat) : Int) = X 11 0 - 1 by omega]; rfl) ?_
  exact loop2 0 (by omega) X (fun _ _ _ => rfl) (fun q hq => by rw [if_neg (by omega)]; exact ho q hq)
set_option maxRecDepth 100000 in
set_option maxHeartbeats 4000000 in
theorem ct_X3_bring_15 {l : Launch} {g : Geo} {X : Mm} {K : AV → Mm → Prop} {n w : Nat} {f : Nat → Nat} (hn : X 11 0 = (n : Int)) (hn8 : 2 ≤ n ∧ n ≤ 8) (hf : Perm f n) (ho : Rw X 15 n f) (hw : w < n) (hp : posI f w n + 1 < n) (hk : ∀ X2, (∀ d j, d ≠ 15 → X2 d j = X d j) → Rw X2 15 n (brg f (posI f w n) (f (n - 1))) → K (vI 0) X2) : Ct l g mX3_bringLastBehind [vR 11, vI (w : Int), vR 15] X K := by
  refine enter (by decide) (Nat.le_of_ble_eq_true rfl) (fun κ => ?_)
  obtain ⟨p, ep⟩ : ∃ p, p = posI f w n := ⟨_, rfl⟩
  have hps := posI_spec hf hw
  rw [← ep] at hp hk hps
  have el : X 15 (n - 1) = (f (n - 1) : Int) := ho _ (by omega)
  have loop2 : ∀ e : Nat, e ≤ n - 2 - p → ∀ X2 : Mm, (∀ d j, d ≠ 15 → X2 d j = X d j) → (∀ q, q < n → X2 15 q = ((if n - 1 - e < q then f (q - 1) else f q : Nat) : Int)) → G l g mX3_bringLastBehind κ K 17 [(0, vR 11), (1, vI (w : Int)), (2, vR 15), (3, vI (f (n - 1) : Int)), (4, vI ((n - 1 - e : Nat) : Int))] [] X2 := by
    refine upTo (n - 2 - p) ?_
    intro e he ih X2 hfr hrow
    have hr1 := hrow (n - 1 - e - 1) (by omega)
    rw [if_neg (by omega)] at hr1
    have hfl := hf.1 (n - 1 - e - 1) (by omega)
    refine g_iload rfl dX3_bringLastBehind_17 ?_
    refine g_if_le (t := 48) dX3_bringLastBehind_19 (by decide) (by first | omega | (simp [st2]; done) | (simp [st2]; omega)) (fun b19 => ?_) (fun b19 => ?_)
    · exfalso; omega
    · refine g_aload_n rfl dX3_bringLastBehind_22 ?_
      refine g_iload rfl dX3_bringLastBehind_23 ?_
      refine g_iconst dX3_bringLastBehind_25 ?_
      refine g_isub dX3_bringLastBehind_26 ?_
      refine g_iald (n := 8) (n - 1 - e - 1) (by first | rfl | assumption) (by first | rfl | assumption) (by omega) (by first | omega | (simp [st2]; done) | (simp [st2]; omega)) (by first | omega | (simp [st2]; done) | (simp [st2]; omega)) dX3_bringLastBehind_27 ?_
      refine g_iload_n rfl dX3_bringLastBehind_28 ?_
      refine g_icmp_eq (t := 48) dX3_bringLastBehind_29 (by decide) (by first | omega | (simp [st2]; done) | (simp [st2]; omega)) (by first | omega | (simp [st2]; done) | (simp [st2]; omega)) (fun b29 => ?_) (fun b29 => ?_)
      · have c3 : n - 1 - e - 1 = p := hf.2 _ _ (by omega) hps.1 (by omega)
        refine g_aload_n rfl dX3_bringLastBehind_48 ?_
        refine g_iload rfl dX3_bringLastBehind_49 ?_
        refine g_iload_n rfl dX3_bringLastBehind_51 ?_
        refine g_iast (n := 8) (p + 1) (by first | rfl | assumption) (by first | rfl | assumption) (by omega) (by first | omega | (simp [st2]; done) | (simp [st2]; omega)) (by first | omega | (simp [st2]; done) | (simp [st2]; omega)) dX3_bringLastBehind_52 ?_
        refine g_return rfl dX3_bringLastBehind_53 ?_
        refine hk _ (fun d j hd => by simp only [st2, if_neg hd]; exact hfr d j hd) (fun q hq => ?_)
        unfold brg
        by_cases c1 : q = p + 1
        · subst c1
          rw [if_neg (by omega), if_pos rfl]
          simp only [st2, if_true]
        · simp only [st2, if_true, if_neg c1]
          rw [hrow q hq]
          by_cases c2 : q ≤ p
          · rw [if_neg (by omega), if_pos c2]
          · rw [if_pos (by omega), if_neg c2]
      · have c3 : n - 1 - e - 1 ≠ p := fun z => b29 (by rw [hr1, z, hps.2])
        refine g_aload_n rfl dX3_bringLastBehind_32 ?_
        refine g_iload rfl dX3_bringLastBehind_33 ?_
        refine g_aload_n rfl dX3_bringLastBehind_35 ?_
        refine g_iload rfl dX3_bringLastBehind_36 ?_
        refine g_iconst dX3_bringLastBehind_38 ?_
        refine g_isub dX3_bringLastBehind_39 ?_
        refine g_iald (n := 8) (n - 1 - e - 1) (by first | rfl | assumption) (by first | rfl | assumption) (by omega) (by first | omega | (simp [st2]; done) | (simp [st2]; omega)) (by first | omega | (simp [st2]; done) | (simp [st2]; omega)) dX3_bringLastBehind_40 ?_
        refine g_iast (n := 8) (n - 1 - e) (by first | rfl | assumption) (by first | rfl | assumption) (by omega) (by first | omega | (simp [st2]; done) | (simp [st2]; omega)) (by first | omega | (simp [st2]; done) | (simp [st2]; omega)) dX3_bringLastBehind_41 ?_
        refine g_iinc rfl (by decide) dX3_bringLastBehind_42 ?_
        refine g_goto (t := 17) dX3_bringLastBehind_45 (by decide) ?_
        refine g_subl [(0, vR 11), (1, vI (w : Int)), (2, vR 15), (3, vI (f (n - 1) : Int)), (4, vI ((n - 1 - (e + 1) : Nat) : Int))] (by
          rw [show ((n - 1 - (e + 1) : Nat) : Int) = ((n - 1 - e : Nat) : Int) + (-1) by omega]; rfl) ?_
        refine ih (e + 1) (by omega) (by omega) _ (fun d j hd => by simp only [st2, if_neg hd]; exact hfr d j hd) (fun q hq => ?_)
        by_cases c1 : q = n - 1 - e
        · subst c1
          rw [if_pos (by omega)]
          simp only [st2, if_true]
          exact hr1
        · simp only [st2, if_true, if_neg c1]
          rw [hrow q hq]
          by_cases c2 : n - 1 - e < q
          · rw [if_pos c2, if_pos (by omega)]
          · rw [if_neg c2, if_neg (by omega)]
  refine g_aload_n rfl dX3_bringLastBehind_0 ?_
  refine g_aload_n rfl dX3_bringLastBehind_1 ?_
  refine gf_X3_34 rfl (by first | rfl | assumption) dX3_bringLastBehind_2 ?_
  refine g_iconst dX3_bringLastBehind_5 ?_
  refine g_isub dX3_bringLastBehind_6 ?_
  refine g_iald (n := 8) (n - 1) (by first | rfl | assumption) (by first | rfl | assumption) (by omega) (by first | omega | (simp [st2]; done) | (simp [st2]; omega)) (by first | omega | (simp [st2]; done) | (simp [st2]; omega)) dX3_bringLastBehind_7 ?_
  rw [el]
  refine g_istore_n (by decide) dX3_bringLastBehind_8 ?_
  refine g_aload_n rfl dX3_bringLastBehind_9 ?_
  refine gf_X3_34 rfl (by first | rfl | assumption) dX3_bringLastBehind_10 ?_
  refine g_iconst dX3_bringLastBehind_13 ?_
  refine g_isub dX3_bringLastBehind_14 ?_
  refine g_istore (by decide) dX3_bringLastBehind_15 ?_
  refine g_subl [(0, vR 11), (1, vI (w : Int)), (2, vR 15), (3, vI (f (n - 1) : Int)), (4, vI ((n - 1 - 0 : Nat) : Int))] (by
    rw [show ((n - 1 - 0 : Nat) : Int) = X 11 0 - 1 by omega]; rfl) ?_
  exact loop2 0 (by omega) X (fun _ _ _ => rfl) (fun q hq => by rw [if_neg (by omega)]; exact ho q hq)
