set_option maxRecDepth 100000 in
set_option maxHeartbeats 4000000 in
theorem ct_X7_move {l : Launch} {g : Geo} {X : Mm} {K : AV → Mm → Prop} {v : Mv} {m a b : Int} {f h : Nat → Nat} (hm : -2147483648 ≤ m ∧ m < 2147483648) (ht : X 29 0 = 0 ∨ X 29 0 = 1) (hfh : (0 ≤ m ∧ f = va v ∧ h = vu v) ∨ (m < 0 ∧ f = vu v ∧ h = va v)) (hX : X 29 0 = 1 → Wys X v ∧ Vd v ∧ X 29 1 = a ∧ X 29 2 = b ∧ ptOk v a b) (h0 : (X 29 0 = 0 ∨ m < -1000 ∨ 1000 < m) → K (vI (-1)) X) (h1 : X 29 0 = 1 → (-1000 ≤ m ∧ m ≤ 1000) → mvN v f h m.natAbs a b = none → ∀ X2, ScC X X2 → K (vI (-1)) X2) (h2 : X 29 0 = 1 → (-1000 ≤ m ∧ m ≤ 1000) → ∀ a2 b2, mvN v f h m.natAbs a b = some (a2, b2) → ∀ X2, PtC X a2 b2 X2 → K (vI (spanOf v a2 b2 : Int)) X2) : Ct l g mX7_move [vR 0, vI m] X K := by
  refine enter (by decide) (Nat.le_of_ble_eq_true rfl) (fun κ => ?_)
  rcases ht with ht | ht
  · have ht2 := ht
    refine g_aload_n rfl dX7_move_0 ?_
    refine gf_X7_43 (c2 := 29) rfl rfl (by first | rfl | assumption) dX7_move_1 ?_
    refine gf_X7_77 rfl (by first | rfl | assumption) dX7_move_4 ?_
    refine g_if_eq (t := 24) dX7_move_7 (by decide) (by first | omega | (simp [st2]; done) | (simp [st2]; omega)) (fun b7 => ?_) (fun b7 => ?_)
    · refine g_iconst dX7_move_24 ?_
      refine g_ireturn rfl dX7_move_25 ?_
      exact h0 (Or.inl ht)
    · exfalso; omega
  · obtain ⟨hw, hv, ea, eb, hp⟩ := hX ht
    have hpa := hv.2.2.2.2.1
    have hpu := hv.2.2.2.2.2.1
    obtain ⟨R, hR⟩ : ∃ R, R = mvN v f h m.natAbs a b := ⟨_, rfl⟩
    rw [← hR] at h1 h2
    have put : ScC X (st2 (st2 (st2 X 30 0 1) 30 1 (X 29 1)) 30 2 (X 29 2)) := fun c j hc => by simp [st2, hc]
    have loop17 : (-1000 ≤ m ∧ m ≤ 1000) → ∀ k : Nat, k ≤ m.natAbs → ∀ (x y : Int) (X2 : Mm), R = mvN v (va v) (vu v) (m.natAbs - k) x y → ptOk v x y → ScC X X2 → X2 30 1 = x → X2 30 2 = y → G l g mX7_move κ K 77 [(0, vR 0), (1, vI m), (2, vR 17), (3, vI (m.natAbs : Int)), (4, vI (k : Int))] [] X2 := by
      intro hm1
      refine upTo m.natAbs ?_
      intro k hkm ih x y X2 hs hxy hsc ex ey
      have hpv := go_pV hv hpa hpu hxy.2
      have hw2 : Wys X2 v := hw.fr (fun d k h1 h2 => hsc d k (by omega))
      have hsc3 : ScC X (st2 (st2 X2 30 1 (gA v (va v) (vu v) x y)) 30 2 (gB v (va v) (vu v) x y)) := fun c j hc => by simp [st2, hc]; exact hsc c j hc
      refine g_iload rfl dX7_move_77 ?_
      refine g_iload_n rfl dX7_move_79 ?_
      refine g_icmp_ge (t := 102) dX7_move_80 (by decide) (by first | omega | (simp [st2]; done) | (simp [st2]; omega)) (by first | omega | (simp [st2]; done) | (simp [st2]; omega)) (fun b80 => ?_) (fun b80 => ?_)
      · rw [show m.natAbs - k = 0 by omega, mvN] at hs
        refine g_aload_n rfl dX7_move_102 ?_
        refine gf_X7_43 (c2 := 29) rfl rfl (by first | rfl | assumption) dX7_move_103 ?_
        refine g_aload_n rfl dX7_move_106 ?_
        refine gf_X7_47 (c2 := 30) rfl rfl (by first | rfl | assumption) dX7_move_107 ?_
        refine gf_X7_150 rfl (by first | rfl | assumption) dX7_move_110 ?_
        refine g_aload_n rfl dX7_move_113 ?_
        refine gf_X7_47 (c2 := 30) rfl rfl (by first | rfl | assumption) dX7_move_114 ?_
        refine gf_X7_154 rfl (by first | rfl | assumption) dX7_move_117 ?_
        rw [ex, ey]
        refine g_cv2v (M2 := mX5_put) (ci := 5) dX7_move_120 ml_RX7_142 kX5_put rfl (by first | rfl | assumption) (by decide) rfl (by unfold Rm; decide) (Nat.le_of_ble_eq_true rfl) (ct_X5_put rfl ?_)
        have hpt : PtC X x y (st2 (st2 (st2 X2 29 0 1) 29 1 x) 29 2 y) := ⟨fun c j hc h30 => by simp [st2, hc]; exact hsc c j h30, rfl, rfl, rfl⟩
        refine g_aload_n rfl dX7_move_123 ?_
        refine gf_X7_33 (c2 := 17) rfl rfl (by first | rfl | assumption) dX7_move_124 ?_
        refine g_aload_n rfl dX7_move_127 ?_
        refine gf_X7_43 (c2 := 29) rfl rfl (by first | rfl | assumption) dX7_move_128 ?_
        refine g_cv1 (M2 := mX6_spanAt) (ci := 6) dX7_move_131 ml_RX7_146 kX6_spanAt (by decide) (by first | rfl | assumption) (by decide) rfl (by unfold Rm; decide) (Nat.le_of_ble_eq_true rfl) (ct_X6_spanAt_17_29 (hw.1.fr (fun d k h1 h2 => hpt.1 d k (by omega) (by omega))) hv hpa rfl rfl hxy ?_)
        refine g_ireturn rfl dX7_move_134 ?_
        exact h2 ht hm1 x y hs _ hpt
      · refine g_aload_n rfl dX7_move_83 ?_
        refine g_aload_n rfl dX7_move_84 ?_
        refine gf_X7_47 (c2 := 30) rfl rfl (by first | rfl | assumption) dX7_move_85 ?_
        refine g_cv1 (M2 := mX6_carry) (ci := 6) dX7_move_88 ml_RX7_157 kX6_carry (by decide) (by first | rfl | assumption) (by decide) rfl (by unfold Rm; decide) (Nat.le_of_ble_eq_true rfl) (ct_X6_carry_17 hw2.1 hv hpa hpu ex ey hxy (fun q => ?_) (fun q => ?_))
        · unfold pB at q
          obtain ⟨d, hd⟩ : ∃ d, m.natAbs - k = d + 1 := ⟨m.natAbs - k - 1, by omega⟩
          rw [hd, mvN] at hs
          refine g_if_ne (t := 96) dX7_move_91 (by decide) (by first | omega | (simp [st2]; done) | (simp [st2]; omega)) (fun b91 => ?_) (fun b91 => ?_)
          · first
              | (rw [if_pos q] at hs
                 refine g_iinc rfl (by decide) dX7_move_96 ?_
                 refine g_goto (t := 77) dX7_move_99 (by decide) ?_
                 refine g_subl [(0, vR 0), (1, vI m), (2, vR 17), (3, vI (m.natAbs : Int)), (4, vI ((k + 1 : Nat) : Int))] rfl ?_
                 exact ih (k + 1) (by omega) (by omega) _ _ _ (by rw [hs, show m.natAbs - (k + 1) = d by omega]) ⟨q, hpv.1⟩ hsc3 rfl rfl)
              | (exfalso; omega)
          · refine g_iconst dX7_move_94 ?_
            refine g_ireturn rfl dX7_move_95 ?_
            first
              | (rw [if_neg q] at hs
                 exact h1 ht hm1 hs _ hsc3)
              | (exfalso; omega)
        · unfold pB at q
          obtain ⟨d, hd⟩ : ∃ d, m.natAbs - k = d + 1 := ⟨m.natAbs - k - 1, by omega⟩
          rw [hd, mvN] at hs
          refine g_if_ne (t := 96) dX7_move_91 (by decide) (by first | omega | (simp [st2]; done) | (simp [st2]; omega)) (fun b91 => ?_) (fun b91 => ?_)
          · first
              | (rw [if_pos q] at hs
                 refine g_iinc rfl (by decide) dX7_move_96 ?_
                 refine g_goto (t := 77) dX7_move_99 (by decide) ?_
                 refine g_subl [(0, vR 0), (1, vI m), (2, vR 17), (3, vI (m.natAbs : Int)), (4, vI ((k + 1 : Nat) : Int))] rfl ?_
                 exact ih (k + 1) (by omega) (by omega) _ _ _ (by rw [hs, show m.natAbs - (k + 1) = d by omega]) ⟨q, hpv.1⟩ hsc3 rfl rfl)
              | (exfalso; omega)
          · refine g_iconst dX7_move_94 ?_
            refine g_ireturn rfl dX7_move_95 ?_
            first
              | (rw [if_neg q] at hs
                 exact h1 ht hm1 hs _ hsc3)
              | (exfalso; omega)
    have loop23 : (-1000 ≤ m ∧ m ≤ 1000) → ∀ k : Nat, k ≤ m.natAbs → ∀ (x y : Int) (X2 : Mm), R = mvN v (vu v) (va v) (m.natAbs - k) x y → ptOk v x y → ScC X X2 → X2 30 1 = x → X2 30 2 = y → G l g mX7_move κ K 77 [(0, vR 0), (1, vI m), (2, vR 23), (3, vI (m.natAbs : Int)), (4, vI (k : Int))] [] X2 := by
      intro hm1
      refine upTo m.natAbs ?_
      intro k hkm ih x y X2 hs hxy hsc ex ey
      have hpv := go_pV hv hpu hpa hxy.2
      have hw2 : Wys X2 v := hw.fr (fun d k h1 h2 => hsc d k (by omega))
      have hsc3 : ScC X (st2 (st2 X2 30 1 (gA v (vu v) (va v) x y)) 30 2 (gB v (vu v) (va v) x y)) := fun c j hc => by simp [st2, hc]; exact hsc c j hc
      refine g_iload rfl dX7_move_77 ?_
      refine g_iload_n rfl dX7_move_79 ?_
      refine g_icmp_ge (t := 102) dX7_move_80 (by decide) (by first | omega | (simp [st2]; done) | (simp [st2]; omega)) (by first | omega | (simp [st2]; done) | (simp [st2]; omega)) (fun b80 => ?_) (fun b80 => ?_)
      · rw [show m.natAbs - k = 0 by omega, mvN] at hs
        refine g_aload_n rfl dX7_move_102 ?_
        refine gf_X7_43 (c2 := 29) rfl rfl (by first | rfl | assumption) dX7_move_103 ?_
        refine g_aload_n rfl dX7_move_106 ?_
        refine gf_X7_47 (c2 := 30) rfl rfl (by first | rfl | assumption) dX7_move_107 ?_
        refine gf_X7_150 rfl (by first | rfl | assumption) dX7_move_110 ?_
        refine g_aload_n rfl dX7_move_113 ?_
        refine gf_X7_47 (c2 := 30) rfl rfl (by first | rfl | assumption) dX7_move_114 ?_
        refine gf_X7_154 rfl (by first | rfl | assumption) dX7_move_117 ?_
        rw [ex, ey]
        refine g_cv2v (M2 := mX5_put) (ci := 5) dX7_move_120 ml_RX7_142 kX5_put rfl (by first | rfl | assumption) (by decide) rfl (by unfold Rm; decide) (Nat.le_of_ble_eq_true rfl) (ct_X5_put rfl ?_)
        have hpt : PtC X x y (st2 (st2 (st2 X2 29 0 1) 29 1 x) 29 2 y) := ⟨fun c j hc h30 => by simp [st2, hc]; exact hsc c j h30, rfl, rfl, rfl⟩
        refine g_aload_n rfl dX7_move_123 ?_
        refine gf_X7_33 (c2 := 17) rfl rfl (by first | rfl | assumption) dX7_move_124 ?_
        refine g_aload_n rfl dX7_move_127 ?_
        refine gf_X7_43 (c2 := 29) rfl rfl (by first | rfl | assumption) dX7_move_128 ?_
        refine g_cv1 (M2 := mX6_spanAt) (ci := 6) dX7_move_131 ml_RX7_146 kX6_spanAt (by decide) (by first | rfl | assumption) (by decide) rfl (by unfold Rm; decide) (Nat.le_of_ble_eq_true rfl) (ct_X6_spanAt_17_29 (hw.1.fr (fun d k h1 h2 => hpt.1 d k (by omega) (by omega))) hv hpa rfl rfl hxy ?_)
        refine g_ireturn rfl dX7_move_134 ?_
        exact h2 ht hm1 x y hs _ hpt
      · refine g_aload_n rfl dX7_move_83 ?_
        refine g_aload_n rfl dX7_move_84 ?_
        refine gf_X7_47 (c2 := 30) rfl rfl (by first | rfl | assumption) dX7_move_85 ?_
        refine g_cv1 (M2 := mX6_carry) (ci := 6) dX7_move_88 ml_RX7_157 kX6_carry (by decide) (by first | rfl | assumption) (by decide) rfl (by unfold Rm; decide) (Nat.le_of_ble_eq_true rfl) (ct_X6_carry_23 hw2.2 hv hpu hpa ex ey hxy (fun q => ?_) (fun q => ?_))
        · unfold pB at q
          obtain ⟨d, hd⟩ : ∃ d, m.natAbs - k = d + 1 := ⟨m.natAbs - k - 1, by omega⟩
          rw [hd, mvN] at hs
          refine g_if_ne (t := 96) dX7_move_91 (by decide) (by first | omega | (simp [st2]; done) | (simp [st2]; omega)) (fun b91 => ?_) (fun b91 => ?_)
          · first
              | (rw [if_pos q] at hs
                 refine g_iinc rfl (by decide) dX7_move_96 ?_
                 refine g_goto (t := 77) dX7_move_99 (by decide) ?_
                 refine g_subl [(0, vR 0), (1, vI m), (2, vR 23), (3, vI (m.natAbs : Int)), (4, vI ((k + 1 : Nat) : Int))] rfl ?_
                 exact ih (k + 1) (by omega) (by omega) _ _ _ (by rw [hs, show m.natAbs - (k + 1) = d by omega]) ⟨q, hpv.1⟩ hsc3 rfl rfl)
              | (exfalso; omega)
          · refine g_iconst dX7_move_94 ?_
            refine g_ireturn rfl dX7_move_95 ?_
            first
              | (rw [if_neg q] at hs
                 exact h1 ht hm1 hs _ hsc3)
              | (exfalso; omega)
        · unfold pB at q
          obtain ⟨d, hd⟩ : ∃ d, m.natAbs - k = d + 1 := ⟨m.natAbs - k - 1, by omega⟩
          rw [hd, mvN] at hs
          refine g_if_ne (t := 96) dX7_move_91 (by decide) (by first | omega | (simp [st2]; done) | (simp [st2]; omega)) (fun b91 => ?_) (fun b91 => ?_)
          · first
              | (rw [if_pos q] at hs
                 refine g_iinc rfl (by decide) dX7_move_96 ?_
                 refine g_goto (t := 77) dX7_move_99 (by decide) ?_
                 refine g_subl [(0, vR 0), (1, vI m), (2, vR 23), (3, vI (m.natAbs : Int)), (4, vI ((k + 1 : Nat) : Int))] rfl ?_
                 exact ih (k + 1) (by omega) (by omega) _ _ _ (by rw [hs, show m.natAbs - (k + 1) = d by omega]) ⟨q, hpv.1⟩ hsc3 rfl rfl)
              | (exfalso; omega)
          · refine g_iconst dX7_move_94 ?_
            refine g_ireturn rfl dX7_move_95 ?_
            first
              | (rw [if_neg q] at hs
                 exact h1 ht hm1 hs _ hsc3)
              | (exfalso; omega)
    rcases hfh with ⟨hm0, ef, eh⟩ | ⟨hm0, ef, eh⟩
    · subst ef
      subst eh
      have em : m = (m.natAbs : Int) := by omega
      refine g_aload_n rfl dX7_move_0 ?_
      refine gf_X7_43 (c2 := 29) rfl rfl (by first | rfl | assumption) dX7_move_1 ?_
      refine gf_X7_77 rfl (by first | rfl | assumption) dX7_move_4 ?_
      refine g_if_eq (t := 24) dX7_move_7 (by decide) (by first | omega | (simp [st2]; done) | (simp [st2]; omega)) (fun b7 => ?_) (fun b7 => ?_)
      · exfalso; omega
      · refine g_iload_n rfl dX7_move_10 ?_
        refine g_sipush (by decide) dX7_move_11 ?_
        refine g_icmp_lt (t := 24) dX7_move_14 (by decide) (by first | omega | (simp [st2]; done) | (simp [st2]; omega)) (by first | omega | (simp [st2]; done) | (simp [st2]; omega)) (fun b14 => ?_) (fun b14 => ?_)
        · refine g_iconst dX7_move_24 ?_
          refine g_ireturn rfl dX7_move_25 ?_
          exact h0 (by omega)
        · refine g_iload_n rfl dX7_move_17 ?_
          refine g_sipush (by decide) dX7_move_18 ?_
          refine g_icmp_le (t := 26) dX7_move_21 (by decide) (by first | omega | (simp [st2]; done) | (simp [st2]; omega)) (by first | omega | (simp [st2]; done) | (simp [st2]; omega)) (fun b21 => ?_) (fun b21 => ?_)
          · refine g_iload_n rfl dX7_move_26 ?_
            refine g_if_ge (t := 37) dX7_move_27 (by decide) (by first | omega | (simp [st2]; done) | (simp [st2]; omega)) (fun b27 => ?_) (fun b27 => ?_)
            · refine g_aload_n rfl dX7_move_37 ?_
              refine gf_X7_33 (c2 := 17) rfl rfl (by first | rfl | assumption) dX7_move_38 ?_
              refine g_astore_n (by decide) dX7_move_41 ?_
              refine g_iload_n rfl dX7_move_42 ?_
              refine g_if_ge (t := 51) dX7_move_43 (by decide) (by first | omega | (simp [st2]; done) | (simp [st2]; omega)) (fun b43 => ?_) (fun b43 => ?_)
              · refine g_iload_n rfl dX7_move_51 ?_
                refine g_istore_n (by decide) dX7_move_52 ?_
                refine g_aload_n rfl dX7_move_53 ?_
                refine gf_X7_47 (c2 := 30) rfl rfl (by first | rfl | assumption) dX7_move_54 ?_
                refine g_aload_n rfl dX7_move_57 ?_
                refine gf_X7_43 (c2 := 29) rfl rfl (by first | rfl | assumption) dX7_move_58 ?_
                refine gf_X7_150 rfl (by first | rfl | assumption) dX7_move_61 ?_
                refine g_aload_n rfl dX7_move_64 ?_
                refine gf_X7_43 (c2 := 29) rfl rfl (by first | rfl | assumption) dX7_move_65 ?_
                refine gf_X7_154 rfl (by first | rfl | assumption) dX7_move_68 ?_
                refine g_cv2v (M2 := mX5_put) (ci := 5) dX7_move_71 ml_RX7_142 kX5_put rfl (by first | rfl | assumption) (by decide) rfl (by unfold Rm; decide) (Nat.le_of_ble_eq_true rfl) (ct_X5_put rfl ?_)
                refine g_iconst dX7_move_74 ?_
                refine g_istore (by decide) dX7_move_75 ?_
                refine g_subl [(0, vR 0), (1, vI m), (2, vR 17), (3, vI (m.natAbs : Int)), (4, vI ((0 : Nat) : Int))] (by rw [← em]; rfl) ?_
                exact loop17 (by omega) 0 (by omega) a b _ hR hp put ea eb
              · exfalso; omega
            · exfalso; omega
          · refine g_iconst dX7_move_24 ?_
            refine g_ireturn rfl dX7_move_25 ?_
            exact h0 (by omega)
    · subst ef
      subst eh
      have em : -m = (m.natAbs : Int) := by omega
      refine g_aload_n rfl dX7_move_0 ?_
      refine gf_X7_43 (c2 := 29) rfl rfl (by first | rfl | assumption) dX7_move_1 ?_
      refine gf_X7_77 rfl (by first | rfl | assumption) dX7_move_4 ?_
      refine g_if_eq (t := 24) dX7_move_7 (by decide) (by first | omega | (simp [st2]; done) | (simp [st2]; omega)) (fun b7 => ?_) (fun b7 => ?_)
      · exfalso; omega
      · refine g_iload_n rfl dX7_move_10 ?_
        refine g_sipush (by decide) dX7_move_11 ?_
        refine g_icmp_lt (t := 24) dX7_move_14 (by decide) (by first | omega | (simp [st2]; done) | (simp [st2]; omega)) (by first | omega | (simp [st2]; done) | (simp [st2]; omega)) (fun b14 => ?_) (fun b14 => ?_)
        · refine g_iconst dX7_move_24 ?_
          refine g_ireturn rfl dX7_move_25 ?_
          exact h0 (by omega)
        · refine g_iload_n rfl dX7_move_17 ?_
          refine g_sipush (by decide) dX7_move_18 ?_
          refine g_icmp_le (t := 26) dX7_move_21 (by decide) (by first | omega | (simp [st2]; done) | (simp [st2]; omega)) (by first | omega | (simp [st2]; done) | (simp [st2]; omega)) (fun b21 => ?_) (fun b21 => ?_)
          · refine g_iload_n rfl dX7_move_26 ?_
            refine g_if_ge (t := 37) dX7_move_27 (by decide) (by first | omega | (simp [st2]; done) | (simp [st2]; omega)) (fun b27 => ?_) (fun b27 => ?_)
            · exfalso; omega
            · refine g_aload_n rfl dX7_move_30 ?_
              refine gf_X7_37 (c2 := 23) rfl rfl (by first | rfl | assumption) dX7_move_31 ?_
              refine g_goto (t := 41) dX7_move_34 (by decide) ?_
              refine g_astore_n (by decide) dX7_move_41 ?_
              refine g_iload_n rfl dX7_move_42 ?_
              refine g_if_ge (t := 51) dX7_move_43 (by decide) (by first | omega | (simp [st2]; done) | (simp [st2]; omega)) (fun b43 => ?_) (fun b43 => ?_)
              · exfalso; omega
              · refine g_iload_n rfl dX7_move_46 ?_
                refine g_ineg dX7_move_47 ?_
                refine g_goto (t := 52) dX7_move_48 (by decide) ?_
                refine g_istore_n (by decide) dX7_move_52 ?_
                refine g_aload_n rfl dX7_move_53 ?_
                refine gf_X7_47 (c2 := 30) rfl rfl (by first | rfl | assumption) dX7_move_54 ?_
                refine g_aload_n rfl dX7_move_57 ?_
                refine gf_X7_43 (c2 := 29) rfl rfl (by first | rfl | assumption) dX7_move_58 ?_
                refine gf_X7_150 rfl (by first | rfl | assumption) dX7_move_61 ?_
                refine g_aload_n rfl dX7_move_64 ?_
                refine gf_X7_43 (c2 := 29) rfl rfl (by first | rfl | assumption) dX7_move_65 ?_
                refine gf_X7_154 rfl (by first | rfl | assumption) dX7_move_68 ?_
                refine g_cv2v (M2 := mX5_put) (ci := 5) dX7_move_71 ml_RX7_142 kX5_put rfl (by first | rfl | assumption) (by decide) rfl (by unfold Rm; decide) (Nat.le_of_ble_eq_true rfl) (ct_X5_put rfl ?_)
                refine g_iconst dX7_move_74 ?_
                refine g_istore (by decide) dX7_move_75 ?_
                refine g_subl [(0, vR 0), (1, vI m), (2, vR 23), (3, vI (m.natAbs : Int)), (4, vI ((0 : Nat) : Int))] (by rw [← em]; rfl) ?_
                exact loop23 (by omega) 0 (by omega) a b _ hR hp put ea eb
          · refine g_iconst dX7_move_24 ?_
            refine g_ireturn rfl dX7_move_25 ?_
            exact h0 (by omega)
set_option maxRecDepth 100000 in
set_option maxHeartbeats 4000000 in
theorem ct_X7_back {l : Launch} {g : Geo} {X : Mm} {K : AV → Mm → Prop} {v : Mv} {x y a b : Int} (hx : -2147483648 ≤ x ∧ x < 2147483648) (hy : -2147483648 ≤ y ∧ y < 2147483648) (ht : X 29 0 = 0 ∨ X 29 0 = 1) (hX : X 29 0 = 1 → X 0 0 = vr v ∧ Wys X v ∧ Vd v ∧ X 29 1 = a ∧ X 29 2 = b ∧ ptOk v a b) (h0 : (X 29 0 = 0 ∨ ¬ bkOk v x y) → K (vI (-1)) X) (h1 : X 29 0 = 1 → bkOk v x y → bkN v (val (vr v) x y) 1000 1 a b = none → ∀ X2, ScC X X2 → K (vI (-2)) X2) (h2 : X 29 0 = 1 → bkOk v x y → ∀ q a2 b2, bkN v (val (vr v) x y) 1000 1 a b = some (q, a2, b2) → ∀ X2, PtC X a2 b2 X2 → K (vI (q : Int)) X2) : Ct l g mX7_back [vR 0, vI x, vI y] X K := by
  refine enter (by decide) (Nat.le_of_ble_eq_true rfl) (fun κ => ?_)
  rcases ht with ht | ht
  · have ht2 := ht
    refine g_aload_n rfl dX7_back_0 ?_
    refine gf_X7_43 (c2 := 29) rfl rfl (by first | rfl | assumption) dX7_back_1 ?_
    refine gf_X7_77 rfl (by first | rfl | assumption) dX7_back_4 ?_
    refine g_if_eq (t := 35) dX7_back_7 (by decide) (by first | omega | (simp [st2]; done) | (simp [st2]; omega)) (fun b7 => ?_) (fun b7 => ?_)
    · refine g_iconst dX7_back_35 ?_
      refine g_ireturn rfl dX7_back_36 ?_
      exact h0 (Or.inl ht)
    · exfalso; omega
  · obtain ⟨er, hw, hv, ea, eb, hp⟩ := hX ht
    have hpa := hv.2.2.2.2.1
    have hpu := hv.2.2.2.2.2.1
    have hr := hv.2.2.1
    have hr2 := hr
    unfold isRoot at hr2
    obtain ⟨R, hR⟩ : ∃ R, R = bkN v (val (vr v) x y) 1000 1 a b := ⟨_, rfl⟩
    rw [← hR] at h1 h2
    have put : ScC X (st2 (st2 (st2 X 30 0 1) 30 1 (X 29 1)) 30 2 (X 29 2)) := fun c j hc => by simp [st2, hc]
    have loop : bkOk v x y → ∀ k : Nat, k ≤ 1000 → ∀ (p q : Int) (X2 : Mm), R = bkN v (val (vr v) x y) (1000 - k) (k + 1) p q → ptOk v p q → ScC X X2 → X2 30 1 = p → X2 30 2 = q → G l g mX7_back κ K 60 [(0, vR 0), (1, vI x), (2, vI y), (3, vI ((k + 1 : Nat) : Int))] [] X2 := by
      intro hbk
      refine upTo 1000 ?_
      intro k hkm ih p q X2 hs hpq hsc ep eq
      have hpv := go_pV hv hpa hpu hpq.2
      have hpb := hpq.1
      have hbk1 := hbk.1
      unfold pB at hpb hbk1
      have hw2 : Wys X2 v := hw.fr (fun d k h1 h2 => hsc d k (by omega))
      have hsc3 : ScC X (st2 (st2 X2 30 1 (gA v (va v) (vu v) p q)) 30 2 (gB v (va v) (vu v) p q)) := fun c j hc => by simp [st2, hc]; exact hsc c j hc
      have er2 : X2 0 0 = vr v := (hsc 0 0 (by decide)).trans er
      refine g_iload_n rfl dX7_back_60 ?_
      refine g_sipush (by decide) dX7_back_61 ?_
      refine g_icmp_gt (t := 143) dX7_back_64 (by decide) (by first | omega | (simp [st2]; done) | (simp [st2]; omega)) (by first | omega | (simp [st2]; done) | (simp [st2]; omega)) (fun b64 => ?_) (fun b64 => ?_)
      · refine g_bipush (by decide) dX7_back_143 ?_
        refine g_ireturn rfl dX7_back_145 ?_
        rw [show 1000 - k = 0 by omega, bkN] at hs
        exact h1 ht hbk hs _ hsc
      · refine g_aload_n rfl dX7_back_67 ?_
        refine gf_X7_33 (c2 := 17) rfl rfl (by first | rfl | assumption) dX7_back_68 ?_
        refine g_aload_n rfl dX7_back_71 ?_
        refine gf_X7_47 (c2 := 30) rfl rfl (by first | rfl | assumption) dX7_back_72 ?_
        refine g_cv1 (M2 := mX6_carry) (ci := 6) dX7_back_75 ml_RX7_157 kX6_carry (by decide) (by first | rfl | assumption) (by decide) rfl (by unfold Rm; decide) (Nat.le_of_ble_eq_true rfl) (ct_X6_carry_17 hw2.1 hv hpa hpu ep eq hpq (fun z => ?_) (fun z => ?_))
        · unfold pB at z
          obtain ⟨d, hd⟩ : ∃ d, 1000 - k = d + 1 := ⟨1000 - k - 1, by omega⟩
          rw [hd, bkN] at hs
          refine g_if_ne (t := 84) dX7_back_78 (by decide) (by first | omega | (simp [st2]; done) | (simp [st2]; omega)) (fun b78 => ?_) (fun b78 => ?_)
          · have z2 : pB (gA v (va v) (vu v) p q) (gB v (va v) (vu v) p q) := by first | exact z | (exfalso; omega)
            have z3 := z2
            unfold pB at z3
            rw [if_pos z3] at hs
            have hsg := sgn_neg (r := vr v) (a := gA v (va v) (vu v) p q - x) (b := gB v (va v) (vu v) p q - y) hr (fun e => by rw [hpv.1.1 e, hbk.2.1 e]; rfl) (by omega) (by omega)
            rw [val_sub] at hsg
            refine g_aload_n rfl dX7_back_84 ?_
            refine gf_X7_47 (c2 := 30) rfl rfl (by first | rfl | assumption) dX7_back_85 ?_
            refine gf_X7_150 rfl (by first | rfl | assumption) dX7_back_88 ?_
            show G l g mX7_back κ K 91 _ [vJ (gA v (va v) (vu v) p q)] _
            refine g_iload_n rfl dX7_back_91 ?_
            refine g_i2l (by first | omega | (simp [st2]; done) | (simp [st2]; omega)) dX7_back_92 ?_
            refine g_lsub dX7_back_93 ?_
            refine g_aload_n rfl dX7_back_94 ?_
            refine gf_X7_47 (c2 := 30) rfl rfl (by first | rfl | assumption) dX7_back_95 ?_
            refine gf_X7_154 rfl (by first | rfl | assumption) dX7_back_98 ?_
            show G l g mX7_back κ K 101 _ [vJ (gB v (va v) (vu v) p q), vJ (gA v (va v) (vu v) p q - x)] _
            refine g_iload_n rfl dX7_back_101 ?_
            refine g_i2l (by first | omega | (simp [st2]; done) | (simp [st2]; omega)) dX7_back_102 ?_
            refine g_lsub dX7_back_103 ?_
            refine g_aload_n rfl dX7_back_104 ?_
            refine gf_X7_7 rfl (by first | rfl | assumption) dX7_back_105 ?_
            rw [show (st2 (st2 X2 30 1 (gA v (va v) (vu v) p q)) 30 2 (gB v (va v) (vu v) p q)) 0 0 = vr v from er2]
            refine g_cs3 (M2 := mX7_signOf) dX7_back_108 ml_RX7_85 kX7_signOf rfl (by decide) (by unfold Rm; decide) (Nat.le_of_ble_eq_true rfl) (ct_X7_signOf hr (by omega) (by omega) ?_)
            refine g_if_ge (t := 137) dX7_back_111 (by decide) (by first | omega | (simp [st2]; done) | (simp [st2]; omega)) (fun b111 => ?_) (fun b111 => ?_)
            · refine g_iinc rfl (by decide) dX7_back_137 ?_
              refine g_goto (t := 60) dX7_back_140 (by decide) ?_
              rw [if_neg (by omega)] at hs
              refine g_subl [(0, vR 0), (1, vI x), (2, vI y), (3, vI ((k + 1 + 1 : Nat) : Int))] rfl ?_
              exact ih (k + 1) (by omega) (by omega) _ _ _ (by rw [hs, show 1000 - (k + 1) = d by omega]) ⟨z2, hpv.1⟩ hsc3 rfl rfl
            · refine g_aload_n rfl dX7_back_114 ?_
              refine gf_X7_43 (c2 := 29) rfl rfl (by first | rfl | assumption) dX7_back_115 ?_
              refine g_aload_n rfl dX7_back_118 ?_
              refine gf_X7_47 (c2 := 30) rfl rfl (by first | rfl | assumption) dX7_back_119 ?_
              refine gf_X7_150 rfl (by first | rfl | assumption) dX7_back_122 ?_
              refine g_aload_n rfl dX7_back_125 ?_
              refine gf_X7_47 (c2 := 30) rfl rfl (by first | rfl | assumption) dX7_back_126 ?_
              refine gf_X7_154 rfl (by first | rfl | assumption) dX7_back_129 ?_
              show G l g mX7_back κ K 132 _ [vJ (gB v (va v) (vu v) p q), vJ (gA v (va v) (vu v) p q), vR 29] _
              refine g_cv2v (M2 := mX5_put) (ci := 5) dX7_back_132 ml_RX7_142 kX5_put rfl (by first | rfl | assumption) (by decide) rfl (by unfold Rm; decide) (Nat.le_of_ble_eq_true rfl) (ct_X5_put rfl ?_)
              refine g_iload_n rfl dX7_back_135 ?_
              refine g_ireturn rfl dX7_back_136 ?_
              rw [if_pos (by omega)] at hs
              exact h2 ht hbk _ _ _ hs _ ⟨fun c j hc h30 => by simp [st2, hc, h30]; exact hsc c j h30, rfl, rfl, rfl⟩
          · refine g_bipush (by decide) dX7_back_81 ?_
            refine g_ireturn rfl dX7_back_83 ?_
            first
              | (rw [if_neg z] at hs
                 exact h1 ht hbk hs _ hsc3)
              | (exfalso; omega)
        · unfold pB at z
          obtain ⟨d, hd⟩ : ∃ d, 1000 - k = d + 1 := ⟨1000 - k - 1, by omega⟩
          rw [hd, bkN] at hs
          refine g_if_ne (t := 84) dX7_back_78 (by decide) (by first | omega | (simp [st2]; done) | (simp [st2]; omega)) (fun b78 => ?_) (fun b78 => ?_)
          · have z2 : pB (gA v (va v) (vu v) p q) (gB v (va v) (vu v) p q) := by first | exact z | (exfalso; omega)
            have z3 := z2
            unfold pB at z3
            rw [if_pos z3] at hs
            have hsg := sgn_neg (r := vr v) (a := gA v (va v) (vu v) p q - x) (b := gB v (va v) (vu v) p q - y) hr (fun e => by rw [hpv.1.1 e, hbk.2.1 e]; rfl) (by omega) (by omega)
            rw [val_sub] at hsg
            refine g_aload_n rfl dX7_back_84 ?_
            refine gf_X7_47 (c2 := 30) rfl rfl (by first | rfl | assumption) dX7_back_85 ?_
            refine gf_X7_150 rfl (by first | rfl | assumption) dX7_back_88 ?_
            show G l g mX7_back κ K 91 _ [vJ (gA v (va v) (vu v) p q)] _
            refine g_iload_n rfl dX7_back_91 ?_
            refine g_i2l (by first | omega | (simp [st2]; done) | (simp [st2]; omega)) dX7_back_92 ?_
            refine g_lsub dX7_back_93 ?_
            refine g_aload_n rfl dX7_back_94 ?_
            refine gf_X7_47 (c2 := 30) rfl rfl (by first | rfl | assumption) dX7_back_95 ?_
            refine gf_X7_154 rfl (by first | rfl | assumption) dX7_back_98 ?_
            show G l g mX7_back κ K 101 _ [vJ (gB v (va v) (vu v) p q), vJ (gA v (va v) (vu v) p q - x)] _
            refine g_iload_n rfl dX7_back_101 ?_
            refine g_i2l (by first | omega | (simp [st2]; done) | (simp [st2]; omega)) dX7_back_102 ?_
            refine g_lsub dX7_back_103 ?_
            refine g_aload_n rfl dX7_back_104 ?_
            refine gf_X7_7 rfl (by first | rfl | assumption) dX7_back_105 ?_
            rw [show (st2 (st2 X2 30 1 (gA v (va v) (vu v) p q)) 30 2 (gB v (va v) (vu v) p q)) 0 0 = vr v from er2]
            refine g_cs3 (M2 := mX7_signOf) dX7_back_108 ml_RX7_85 kX7_signOf rfl (by decide) (by unfold Rm; decide) (Nat.le_of_ble_eq_true rfl) (ct_X7_signOf hr (by omega) (by omega) ?_)
            refine g_if_ge (t := 137) dX7_back_111 (by decide) (by first | omega | (simp [st2]; done) | (simp [st2]; omega)) (fun b111 => ?_) (fun b111 => ?_)
            · refine g_iinc rfl (by decide) dX7_back_137 ?_
              refine g_goto (t := 60) dX7_back_140 (by decide) ?_
              rw [if_neg (by omega)] at hs
              refine g_subl [(0, vR 0), (1, vI x), (2, vI y), (3, vI ((k + 1 + 1 : Nat) : Int))] rfl ?_
              exact ih (k + 1) (by omega) (by omega) _ _ _ (by rw [hs, show 1000 - (k + 1) = d by omega]) ⟨z2, hpv.1⟩ hsc3 rfl rfl
            · refine g_aload_n rfl dX7_back_114 ?_
              refine gf_X7_43 (c2 := 29) rfl rfl (by first | rfl | assumption) dX7_back_115 ?_
              refine g_aload_n rfl dX7_back_118 ?_
              refine gf_X7_47 (c2 := 30) rfl rfl (by first | rfl | assumption) dX7_back_119 ?_
              refine gf_X7_150 rfl (by first | rfl | assumption) dX7_back_122 ?_
              refine g_aload_n rfl dX7_back_125 ?_
              refine gf_X7_47 (c2 := 30) rfl rfl (by first | rfl | assumption) dX7_back_126 ?_
              refine gf_X7_154 rfl (by first | rfl | assumption) dX7_back_129 ?_
              show G l g mX7_back κ K 132 _ [vJ (gB v (va v) (vu v) p q), vJ (gA v (va v) (vu v) p q), vR 29] _
              refine g_cv2v (M2 := mX5_put) (ci := 5) dX7_back_132 ml_RX7_142 kX5_put rfl (by first | rfl | assumption) (by decide) rfl (by unfold Rm; decide) (Nat.le_of_ble_eq_true rfl) (ct_X5_put rfl ?_)
              refine g_iload_n rfl dX7_back_135 ?_
              refine g_ireturn rfl dX7_back_136 ?_
              rw [if_pos (by omega)] at hs
              exact h2 ht hbk _ _ _ hs _ ⟨fun c j hc h30 => by simp [st2, hc, h30]; exact hsc c j h30, rfl, rfl, rfl⟩
          · refine g_bipush (by decide) dX7_back_81 ?_
            refine g_ireturn rfl dX7_back_83 ?_
            first
              | (rw [if_neg z] at hs
                 exact h1 ht hbk hs _ hsc3)
              | (exfalso; omega)
    refine g_aload_n rfl dX7_back_0 ?_
    refine gf_X7_43 (c2 := 29) rfl rfl (by first | rfl | assumption) dX7_back_1 ?_
    refine gf_X7_77 rfl (by first | rfl | assumption) dX7_back_4 ?_
    refine g_if_eq (t := 35) dX7_back_7 (by decide) (by first | omega | (simp [st2]; done) | (simp [st2]; omega)) (fun b7 => ?_) (fun b7 => ?_)
    · exfalso; omega
    · refine g_aload_n rfl dX7_back_10 ?_
      refine g_iload_n rfl dX7_back_11 ?_
      refine g_iload_n rfl dX7_back_12 ?_
      refine g_ldc (n := (536870912)) kc_RX7_137 dX7_back_13 ?_
      refine g_cv3 (M2 := mX7_canBe) (ci := 7) dX7_back_15 ml_RX7_81 kX7_canBe (by decide) (by first | rfl | assumption) (by decide) rfl (by unfold Rm; decide) (Nat.le_of_ble_eq_true rfl) (ct_X7_canBe (by rw [er]; exact hr) (by omega) (by omega) (by omega) ?_)
      refine g_if_eq (t := 35) dX7_back_18 (by decide) (by first | omega | (simp [st2]; done) | (simp [st2]; omega)) (fun b18 => ?_) (fun b18 => ?_)
      · refine g_iconst dX7_back_35 ?_
        refine g_ireturn rfl dX7_back_36 ?_
        refine h0 (Or.inr (fun q => ?_))
        have q1 := q.1
        have q2 := q.2.1
        have q3 := q.2.2
        unfold pB at q1
        omega
      · have hsg := sgn_neg (r := vr v) (a := x) (b := y) hr (by omega) (by omega) (by omega)
        refine g_iload_n rfl dX7_back_21 ?_
        refine g_i2l (by first | omega | (simp [st2]; done) | (simp [st2]; omega)) dX7_back_22 ?_
        refine g_iload_n rfl dX7_back_23 ?_
        refine g_i2l (by first | omega | (simp [st2]; done) | (simp [st2]; omega)) dX7_back_24 ?_
        refine g_aload_n rfl dX7_back_25 ?_
        refine gf_X7_7 rfl (by first | rfl | assumption) dX7_back_26 ?_
        rw [er]
        refine g_cs3 (M2 := mX7_signOf) dX7_back_29 ml_RX7_85 kX7_signOf rfl (by decide) (by unfold Rm; decide) (Nat.le_of_ble_eq_true rfl) (ct_X7_signOf hr (by omega) (by omega) ?_)
        refine g_if_gt (t := 37) dX7_back_32 (by decide) (by first | omega | (simp [st2]; done) | (simp [st2]; omega)) (fun b32 => ?_) (fun b32 => ?_)
        · refine g_aload_n rfl dX7_back_37 ?_
          refine gf_X7_47 (c2 := 30) rfl rfl (by first | rfl | assumption) dX7_back_38 ?_
          refine g_aload_n rfl dX7_back_41 ?_
          refine gf_X7_43 (c2 := 29) rfl rfl (by first | rfl | assumption) dX7_back_42 ?_
          refine gf_X7_150 rfl (by first | rfl | assumption) dX7_back_45 ?_
          refine g_aload_n rfl dX7_back_48 ?_
          refine gf_X7_43 (c2 := 29) rfl rfl (by first | rfl | assumption) dX7_back_49 ?_
          refine gf_X7_154 rfl (by first | rfl | assumption) dX7_back_52 ?_
          refine g_cv2v (M2 := mX5_put) (ci := 5) dX7_back_55 ml_RX7_142 kX5_put rfl (by first | rfl | assumption) (by decide) rfl (by unfold Rm; decide) (Nat.le_of_ble_eq_true rfl) (ct_X5_put rfl ?_)
          refine g_iconst dX7_back_58 ?_
          refine g_istore_n (by decide) dX7_back_59 ?_
          refine g_subl [(0, vR 0), (1, vI x), (2, vI y), (3, vI ((0 + 1 : Nat) : Int))] rfl ?_
          exact loop ⟨by unfold pB; omega, by omega, by omega⟩ 0 (by omega) a b _ hR hp put ea eb
        · refine g_iconst dX7_back_35 ?_
          refine g_ireturn rfl dX7_back_36 ?_
          refine h0 (Or.inr (fun q => ?_))
          have q1 := q.1
          have q2 := q.2.1
          have q3 := q.2.2
          unfold pB at q1
          omega
set_option maxRecDepth 100000 in
set_option maxHeartbeats 4000000 in
theorem ct_X7_visits {l : Launch} {g : Geo} {X : Mm} {K : AV → Mm → Prop} {v : Mv} {k m a b : Int} {n : Nat} (hk : -2147483648 ≤ k ∧ k < 2147483648) (hm : -2147483648 ≤ m ∧ m < 2147483648) (hn : X 5 0 = (n : Int)) (hn8 : n ≤ 8) (ht : X 29 0 = 0 ∨ X 29 0 = 1) (hX : X 29 0 = 1 → Wys X v ∧ Vd v ∧ X 29 1 = a ∧ X 29 2 = b ∧ ptOk v a b) (h0 : (X 29 0 = 0 ∨ k < 0 ∨ (n : Int) ≤ k ∨ m < 1 ∨ 1000 < m) → K (vI (-1)) X) (h1 : X 29 0 = 1 → (0 ≤ k ∧ k < n ∧ 1 ≤ m ∧ m ≤ 1000) → ∀ X2, ScC X X2 → K (vI (fin2 (if (spanOf v a b : Int) = k then 1 else 0) (vr2 v k (m.toNat - 1) a b))) X2) : Ct l g mX7_visits [vR 0, vI k, vI m] X K := by
  refine enter (by decide) (Nat.le_of_ble_eq_true rfl) (fun κ => ?_)
  rcases ht with ht | ht
  · have ht2 := ht
    refine g_aload_n rfl dX7_visits_0 ?_
    refine gf_X7_43 (c2 := 29) rfl rfl (by first | rfl | assumption) dX7_visits_1 ?_
    refine gf_X7_77 rfl (by first | rfl | assumption) dX7_visits_4 ?_
    refine g_if_eq (t := 37) dX7_visits_7 (by decide) (by first | omega | (simp [st2]; done) | (simp [st2]; omega)) (fun b7 => ?_) (fun b7 => ?_)
    · refine g_iconst dX7_visits_37 ?_
      refine g_ireturn rfl dX7_visits_38 ?_
      exact h0 (Or.inl ht)
    · exfalso; omega
  · obtain ⟨hw, hv, ea, eb, hp⟩ := hX ht
    have h8 := hv.2.1
    have hpa := hv.2.2.2.2.1
    have hpu := hv.2.2.2.2.2.1
    have put : ScC X (st2 (st2 (st2 X 30 0 1) 30 1 (X 29 1)) 30 2 (X 29 2)) := fun c j hc => by simp [st2, hc]
    obtain ⟨R, hR⟩ : ∃ R, R = fin2 (if (spanOf v a b : Int) = k then 1 else 0) (vr2 v k (m.toNat - 1) a b) := ⟨_, rfl⟩
    rw [← hR] at h1
    have loop : (0 ≤ k ∧ k < n ∧ 1 ≤ m ∧ m ≤ 1000) → ∀ i : Nat, i ≤ m.toNat → ∀ (p q acc : Int) (X2 : Mm), (i < m.toNat → R = fin2 (acc + if (spanOf v p q : Int) = k then 1 else 0) (vr2 v k (m.toNat - i - 1) p q)) → (i = m.toNat → R = acc) → (0 ≤ acc ∧ acc ≤ i) → (i < m.toNat → ptOk v p q ∧ X2 30 1 = p ∧ X2 30 2 = q) → ScC X X2 → G l g mX7_visits κ K 65 [(0, vR 0), (1, vI k), (2, vI m), (3, vI acc), (4, vI ((i + 1 : Nat) : Int))] [] X2 := by
      intro hkm
      refine upTo m.toNat ?_
      intro i him ih p q acc X2 hs he hacc hpq0 hsc
      have hw2 : Wys X2 v := hw.fr (fun d k h1 h2 => hsc d k (by omega))
      refine g_iload rfl dX7_visits_65 ?_
      refine g_iload_n rfl dX7_visits_67 ?_
      refine g_icmp_gt (t := 123) dX7_visits_68 (by decide) (by first | omega | (simp [st2]; done) | (simp [st2]; omega)) (by first | omega | (simp [st2]; done) | (simp [st2]; omega)) (fun b68 => ?_) (fun b68 => ?_)
      · refine g_iload_n rfl dX7_visits_123 ?_
        refine g_ireturn rfl dX7_visits_124 ?_
        exact kE (h1 ht hkm _ hsc) (he (by omega))
      · obtain ⟨hpq, ep, eq⟩ := hpq0 (by omega)
        have hs := hs (by omega)
        have hpv := go_pV hv hpa hpu hpq.2
        have hsl := spanOf_lt hv hpq.2
        have hsc3 : ScC X (st2 (st2 X2 30 1 (gA v (va v) (vu v) p q)) 30 2 (gB v (va v) (vu v) p q)) := fun c j hc => by simp [st2, hc]; exact hsc c j hc
        have go : ∀ acc2 : Int, acc2 = (acc + if (spanOf v p q : Int) = k then 1 else 0) → G l g mX7_visits κ K 93 [(0, vR 0), (1, vI k), (2, vI m), (3, vI acc2), (4, vI ((i + 1 : Nat) : Int)), (5, vI (spanOf v p q : Int))] [] X2 := by
          intro acc2 ea2
          rw [← ea2] at hs
          have hab : 0 ≤ acc2 ∧ acc2 ≤ i + 1 := by
            rw [ea2]
            split <;> omega
          refine g_iload rfl dX7_visits_93 ?_
          refine g_iload_n rfl dX7_visits_95 ?_
          refine g_icmp_ge (t := 117) dX7_visits_96 (by decide) (by first | omega | (simp [st2]; done) | (simp [st2]; omega)) (by first | omega | (simp [st2]; done) | (simp [st2]; omega)) (fun b96 => ?_) (fun b96 => ?_)
          · refine g_iinc rfl (by decide) dX7_visits_117 ?_
            refine g_goto (t := 65) dX7_visits_120 (by decide) ?_
            first
              | (refine g_subl [(0, vR 0), (1, vI k), (2, vI m), (3, vI acc2), (4, vI ((i + 1 + 1 : Nat) : Int))] rfl ?_
                 obtain ⟨d, hd⟩ : ∃ d, m.toNat - i - 1 = d + 1 := ⟨m.toNat - i - 2, by omega⟩
                 rw [hd, vr2, if_pos z] at hs
                 have hvb := vr2_bd v k d (gA v (va v) (vu v) p q) (gB v (va v) (vu v) p q)
                 refine ih (i + 1) (by omega) (by omega) _ _ _ _ (fun hlt => ?_) (fun hlt => by omega) (by omega) (fun hlt => ⟨⟨z, hpv.1⟩, rfl, rfl⟩) hsc3
                 rw [hs, show m.toNat - (i + 1) - 1 = d by omega]
                 unfold fin2
                 repeat' split
                 all_goals omega)
              | (refine g_subl [(0, vR 0), (1, vI k), (2, vI m), (3, vI acc2), (4, vI ((i + 1 + 1 : Nat) : Int))] rfl ?_
                 rw [show m.toNat - i - 1 = 0 by omega, vr2] at hs
                 refine ih (i + 1) (by omega) (by omega) p q _ _ (fun hlt => by omega) (fun hlt => ?_) (by omega) (fun hlt => by omega) hsc
                 rw [hs]
                 unfold fin2
                 rw [if_neg (by omega)]
                 omega)
              | (exfalso; omega)
          · refine g_aload_n rfl dX7_visits_99 ?_
            refine gf_X7_33 (c2 := 17) rfl rfl (by first | rfl | assumption) dX7_visits_100 ?_
            refine g_aload_n rfl dX7_visits_103 ?_
            refine gf_X7_47 (c2 := 30) rfl rfl (by first | rfl | assumption) dX7_visits_104 ?_
            refine g_iload rfl dX7_visits_107 ?_
            refine g_cv2 (M2 := mX6_shift) (ci := 6) dX7_visits_109 ml_RX7_163 kX6_shift (by decide) (by first | rfl | assumption) (by decide) rfl (by unfold Rm; decide) (Nat.le_of_ble_eq_true rfl) (ct_X6_shift_17 hw2.1 hv hpa hpu ep eq hpq (fun z => ?_) (fun z => ?_))
            · unfold pB at z
              refine g_if_ne (t := 117) dX7_visits_112 (by decide) (by first | omega | (simp [st2]; done) | (simp [st2]; omega)) (fun b112 => ?_) (fun b112 => ?_)
              · refine g_iinc rfl (by decide) dX7_visits_117 ?_
                refine g_goto (t := 65) dX7_visits_120 (by decide) ?_
                first
                  | (refine g_subl [(0, vR 0), (1, vI k), (2, vI m), (3, vI acc2), (4, vI ((i + 1 + 1 : Nat) : Int))] rfl ?_
                     obtain ⟨d, hd⟩ : ∃ d, m.toNat - i - 1 = d + 1 := ⟨m.toNat - i - 2, by omega⟩
                     rw [hd, vr2, if_pos z] at hs
                     have hvb := vr2_bd v k d (gA v (va v) (vu v) p q) (gB v (va v) (vu v) p q)
                     refine ih (i + 1) (by omega) (by omega) _ _ _ _ (fun hlt => ?_) (fun hlt => by omega) (by omega) (fun hlt => ⟨⟨z, hpv.1⟩, rfl, rfl⟩) hsc3
                     rw [hs, show m.toNat - (i + 1) - 1 = d by omega]
                     unfold fin2
                     repeat' split
                     all_goals omega)
                  | (refine g_subl [(0, vR 0), (1, vI k), (2, vI m), (3, vI acc2), (4, vI ((i + 1 + 1 : Nat) : Int))] rfl ?_
                     rw [show m.toNat - i - 1 = 0 by omega, vr2] at hs
                     refine ih (i + 1) (by omega) (by omega) p q _ _ (fun hlt => by omega) (fun hlt => ?_) (by omega) (fun hlt => by omega) hsc
                     rw [hs]
                     unfold fin2
                     rw [if_neg (by omega)]
                     omega)
                  | (exfalso; omega)
              · refine g_iconst dX7_visits_115 ?_
                refine g_ireturn rfl dX7_visits_116 ?_
                first
                  | (obtain ⟨d, hd⟩ : ∃ d, m.toNat - i - 1 = d + 1 := ⟨m.toNat - i - 2, by omega⟩
                     rw [hd, vr2, if_neg z] at hs
                     exact kE (h1 ht hkm _ hsc3) hs)
                  | (exfalso; omega)
            · unfold pB at z
              refine g_if_ne (t := 117) dX7_visits_112 (by decide) (by first | omega | (simp [st2]; done) | (simp [st2]; omega)) (fun b112 => ?_) (fun b112 => ?_)
              · refine g_iinc rfl (by decide) dX7_visits_117 ?_
                refine g_goto (t := 65) dX7_visits_120 (by decide) ?_
                first
                  | (refine g_subl [(0, vR 0), (1, vI k), (2, vI m), (3, vI acc2), (4, vI ((i + 1 + 1 : Nat) : Int))] rfl ?_
                     obtain ⟨d, hd⟩ : ∃ d, m.toNat - i - 1 = d + 1 := ⟨m.toNat - i - 2, by omega⟩
                     rw [hd, vr2, if_pos z] at hs
                     have hvb := vr2_bd v k d (gA v (va v) (vu v) p q) (gB v (va v) (vu v) p q)
                     refine ih (i + 1) (by omega) (by omega) _ _ _ _ (fun hlt => ?_) (fun hlt => by omega) (by omega) (fun hlt => ⟨⟨z, hpv.1⟩, rfl, rfl⟩) hsc3
                     rw [hs, show m.toNat - (i + 1) - 1 = d by omega]
                     unfold fin2
                     repeat' split
                     all_goals omega)
                  | (refine g_subl [(0, vR 0), (1, vI k), (2, vI m), (3, vI acc2), (4, vI ((i + 1 + 1 : Nat) : Int))] rfl ?_
                     rw [show m.toNat - i - 1 = 0 by omega, vr2] at hs
                     refine ih (i + 1) (by omega) (by omega) p q _ _ (fun hlt => by omega) (fun hlt => ?_) (by omega) (fun hlt => by omega) hsc
                     rw [hs]
                     unfold fin2
                     rw [if_neg (by omega)]
                     omega)
                  | (exfalso; omega)
              · refine g_iconst dX7_visits_115 ?_
                refine g_ireturn rfl dX7_visits_116 ?_
                first
                  | (obtain ⟨d, hd⟩ : ∃ d, m.toNat - i - 1 = d + 1 := ⟨m.toNat - i - 2, by omega⟩
                     rw [hd, vr2, if_neg z] at hs
                     exact kE (h1 ht hkm _ hsc3) hs)
                  | (exfalso; omega)
        refine g_aload_n rfl dX7_visits_71 ?_
        refine gf_X7_33 (c2 := 17) rfl rfl (by first | rfl | assumption) dX7_visits_72 ?_
        refine g_aload_n rfl dX7_visits_75 ?_
        refine gf_X7_47 (c2 := 30) rfl rfl (by first | rfl | assumption) dX7_visits_76 ?_
        refine g_cv1 (M2 := mX6_spanAt) (ci := 6) dX7_visits_79 ml_RX7_146 kX6_spanAt (by decide) (by first | rfl | assumption) (by decide) rfl (by unfold Rm; decide) (Nat.le_of_ble_eq_true rfl) (ct_X6_spanAt_17_30 hw2.1 hv hpa ep eq hpq ?_)
        show G l g mX7_visits κ K 82 _ [vI (spanOf v p q : Int)] _
        refine g_istore (by decide) dX7_visits_82 ?_
        refine g_iload rfl dX7_visits_84 ?_
        refine g_iload_n rfl dX7_visits_86 ?_
        refine g_icmp_ne (t := 93) dX7_visits_87 (by decide) (by first | omega | (simp [st2]; done) | (simp [st2]; omega)) (by first | omega | (simp [st2]; done) | (simp [st2]; omega)) (fun b87 => ?_) (fun b87 => ?_)
        · first
            | (refine g_subl [(0, vR 0), (1, vI k), (2, vI m), (3, vI acc), (4, vI ((i + 1 : Nat) : Int)), (5, vI (spanOf v p q : Int))] rfl ?_
               exact go _ (by rw [if_neg b87]; omega))
            | (refine g_subl [(0, vR 0), (1, vI k), (2, vI m), (3, vI (acc + 1)), (4, vI ((i + 1 : Nat) : Int)), (5, vI (spanOf v p q : Int))] rfl ?_
               exact go _ (by rw [if_pos b87]))
        · refine g_iinc rfl (by decide) dX7_visits_90 ?_
          first
            | (refine g_subl [(0, vR 0), (1, vI k), (2, vI m), (3, vI acc), (4, vI ((i + 1 : Nat) : Int)), (5, vI (spanOf v p q : Int))] rfl ?_
               exact go _ (by rw [if_neg b87]; omega))
            | (refine g_subl [(0, vR 0), (1, vI k), (2, vI m), (3, vI (acc + 1)), (4, vI ((i + 1 : Nat) : Int)), (5, vI (spanOf v p q : Int))] rfl ?_
               exact go _ (by rw [if_pos b87]))
    refine g_aload_n rfl dX7_visits_0 ?_
    refine gf_X7_43 (c2 := 29) rfl rfl (by first | rfl | assumption) dX7_visits_1 ?_
    refine gf_X7_77 rfl (by first | rfl | assumption) dX7_visits_4 ?_
    refine g_if_eq (t := 37) dX7_visits_7 (by decide) (by first | omega | (simp [st2]; done) | (simp [st2]; omega)) (fun b7 => ?_) (fun b7 => ?_)
    · exfalso; omega
    · refine g_iload_n rfl dX7_visits_10 ?_
      refine g_if_lt (t := 37) dX7_visits_11 (by decide) (by first | omega | (simp [st2]; done) | (simp [st2]; omega)) (fun b11 => ?_) (fun b11 => ?_)
      · refine g_iconst dX7_visits_37 ?_
        refine g_ireturn rfl dX7_visits_38 ?_
        exact h0 (by omega)
      · refine g_iload_n rfl dX7_visits_14 ?_
        refine g_aload_n rfl dX7_visits_15 ?_
        refine gf_X7_23 (c2 := 5) rfl rfl (by first | rfl | assumption) dX7_visits_16 ?_
        refine gf_X7_74 rfl (by first | rfl | assumption) dX7_visits_19 ?_
        refine g_icmp_ge (t := 37) dX7_visits_22 (by decide) (by first | omega | (simp [st2]; done) | (simp [st2]; omega)) (by first | omega | (simp [st2]; done) | (simp [st2]; omega)) (fun b22 => ?_) (fun b22 => ?_)
        · refine g_iconst dX7_visits_37 ?_
          refine g_ireturn rfl dX7_visits_38 ?_
          exact h0 (by omega)
        · refine g_iload_n rfl dX7_visits_25 ?_
          refine g_iconst dX7_visits_26 ?_
          refine g_icmp_lt (t := 37) dX7_visits_27 (by decide) (by first | omega | (simp [st2]; done) | (simp [st2]; omega)) (by first | omega | (simp [st2]; done) | (simp [st2]; omega)) (fun b27 => ?_) (fun b27 => ?_)
          · refine g_iconst dX7_visits_37 ?_
            refine g_ireturn rfl dX7_visits_38 ?_
            exact h0 (by omega)
          · refine g_iload_n rfl dX7_visits_30 ?_
            refine g_sipush (by decide) dX7_visits_31 ?_
            refine g_icmp_le (t := 39) dX7_visits_34 (by decide) (by first | omega | (simp [st2]; done) | (simp [st2]; omega)) (by first | omega | (simp [st2]; done) | (simp [st2]; omega)) (fun b34 => ?_) (fun b34 => ?_)
            · refine g_iconst dX7_visits_39 ?_
              refine g_istore_n (by decide) dX7_visits_40 ?_
              refine g_aload_n rfl dX7_visits_41 ?_
              refine gf_X7_47 (c2 := 30) rfl rfl (by first | rfl | assumption) dX7_visits_42 ?_
              refine g_aload_n rfl dX7_visits_45 ?_
              refine gf_X7_43 (c2 := 29) rfl rfl (by first | rfl | assumption) dX7_visits_46 ?_
              refine gf_X7_150 rfl (by first | rfl | assumption) dX7_visits_49 ?_
              refine g_aload_n rfl dX7_visits_52 ?_
              refine gf_X7_43 (c2 := 29) rfl rfl (by first | rfl | assumption) dX7_visits_53 ?_
              refine gf_X7_154 rfl (by first | rfl | assumption) dX7_visits_56 ?_
              refine g_cv2v (M2 := mX5_put) (ci := 5) dX7_visits_59 ml_RX7_142 kX5_put rfl (by first | rfl | assumption) (by decide) rfl (by unfold Rm; decide) (Nat.le_of_ble_eq_true rfl) (ct_X5_put rfl ?_)
              refine g_iconst dX7_visits_62 ?_
              refine g_istore (by decide) dX7_visits_63 ?_
              refine g_subl [(0, vR 0), (1, vI k), (2, vI m), (3, vI 0), (4, vI ((0 + 1 : Nat) : Int))] rfl ?_
              exact loop (by omega) 0 (by omega) a b 0 _ (fun _ => by rw [hR, Int.zero_add]; rfl) (fun _ => by omega) (by omega) (fun _ => ⟨hp, ea, eb⟩) put
            · refine g_iconst dX7_visits_37 ?_
              refine g_ireturn rfl dX7_visits_38 ?_
              exact h0 (by omega)
