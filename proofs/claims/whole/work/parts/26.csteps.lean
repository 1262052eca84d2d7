def StC (X : Mm) (v2 : Mv) (a b : Int) (k su : Int) (X2 : Mm) : Prop := MvC X2 5 v2 ∧ Wys X2 v2 ∧ X2 5 2 = X 5 2 + k ∧ X2 5 3 = X 5 3 + su ∧ ((X 29 0 = 1 ∧ onL v2 a b) → X2 29 0 = 1) ∧ (¬ (X 29 0 = 1 ∧ onL v2 a b) → X2 29 0 = 0) ∧ (∀ j, j ≠ 0 → X2 29 j = X 29 j) ∧ ∀ d j, (d < 5 ∨ 28 < d ∨ (11 ≤ d ∧ d ≤ 16)) → d ≠ 29 → X2 d j = X d j
set_option maxRecDepth 100000 in
theorem ct_X7_step {l : Launch} {g : Geo} {X : Mm} {K : AV → Mm → Prop} {v : Mv} {a b : Int} (hX : MvC X 5 v) (hv : vn v ≠ 0 → Vd v) (ht : X 29 0 = 0 ∨ X 29 0 = 1) (hpt : X 29 0 = 1 → X 29 1 = a ∧ X 29 2 = b ∧ ptOk v a b) (h0 : vn v = 0 → K (vI (-1)) X) (h1 : vn v ≠ 0 → stR v < 0 → K (vI (stR v)) X) (h2 : vn v ≠ 0 → 0 ≤ stR v → ∀ X2, StC X (stN v) a b 1 (stR v) X2 → K (vI (stR v)) X2) : Ct l g mX7_step [vR 0] X K := by
  refine enter (by decide) (Nat.le_of_ble_eq_true rfl) (fun κ => ?_)
  have hrg := stR_rng v
  refine g_aload_n rfl dX7_step_0 ?_
  refine gf_X7_23 (c2 := 5) rfl rfl (by first | rfl | assumption) dX7_step_1 ?_
  refine g_cv0 (M2 := mX3_advance) (ci := 3) dX7_step_4 ml_RX7_167 kX3_advance (by decide) (by first | rfl | assumption) (by decide) rfl (by unfold Rm; decide) (Nat.le_of_ble_eq_true rfl) (ct_X3_advance_5 hX hv (fun q => ?_) (fun q hneg => ?_) (fun q hpos X2 e0 e1 e2 e3 => ?_))
  · refine g_istore_n (by decide) dX7_step_7 ?_
    refine g_iload_n rfl dX7_step_8 ?_
    refine g_if_lt (t := 16) dX7_step_9 (by decide) (by first | omega | (simp [st2]; done) | (simp [st2]; omega)) (fun b9 => ?_) (fun b9 => ?_)
    · refine g_iload_n rfl dX7_step_16 ?_
      refine g_ireturn rfl dX7_step_17 ?_
      first
        | exact h0 q
        | exact h1 q hneg
        | (rw [e3 29 0 (by omega)] at w4 w5
           refine h2 q hpos X3 ⟨e0.fr (fun d k z1 z2 => w2 d k (by omega) (by omega)), w1, ?_, ?_, w4, w5, ?_, ?_⟩
           · rw [w2 5 2 (by omega) (by omega)]; exact e1
           · rw [w2 5 3 (by omega) (by omega)]; exact e2
           · intro j hj
             rw [w3 j hj, e3 29 j (by omega)]
           · intro d j hd h29
             rw [w2 d j (by omega) h29, e3 d j (by omega)])
    · exact absurd b9 (by decide)
  · refine g_istore_n (by decide) dX7_step_7 ?_
    refine g_iload_n rfl dX7_step_8 ?_
    refine g_if_lt (t := 16) dX7_step_9 (by decide) (by first | omega | (simp [st2]; done) | (simp [st2]; omega)) (fun b9 => ?_) (fun b9 => ?_)
    · refine g_iload_n rfl dX7_step_16 ?_
      refine g_ireturn rfl dX7_step_17 ?_
      first
        | exact h0 q
        | exact h1 q hneg
        | (rw [e3 29 0 (by omega)] at w4 w5
           refine h2 q hpos X3 ⟨e0.fr (fun d k z1 z2 => w2 d k (by omega) (by omega)), w1, ?_, ?_, w4, w5, ?_, ?_⟩
           · rw [w2 5 2 (by omega) (by omega)]; exact e1
           · rw [w2 5 3 (by omega) (by omega)]; exact e2
           · intro j hj
             rw [w3 j hj, e3 29 j (by omega)]
           · intro d j hd h29
             rw [w2 d j (by omega) h29, e3 d j (by omega)])
    · exact absurd hneg b9
  · refine g_istore_n (by decide) dX7_step_7 ?_
    refine g_iload_n rfl dX7_step_8 ?_
    refine g_if_lt (t := 16) dX7_step_9 (by decide) (by first | omega | (simp [st2]; done) | (simp [st2]; omega)) (fun b9 => ?_) (fun b9 => ?_)
    · exact absurd hpos (by omega)
    · refine g_aload_n rfl dX7_step_12 ?_
      refine g_cv0v (M2 := mX7_followMover) (ci := 7) dX7_step_13 ml_RX7_170 kX7_followMover rfl (by first | rfl | assumption) (by decide) rfl (by unfold Rm; decide) (Nat.le_of_ble_eq_true rfl) (ct_X7_followMover (v := stN v) (a := a) (b := b) e0 (stN_ok (hv q) hpos).1 (by rw [e3 29 0 (by omega)]; exact ht) (fun z => by
  rw [e3 29 0 (by omega)] at z
  obtain ⟨p1, p2, p3⟩ := hpt z
  exact ⟨by rw [e3 29 1 (by omega)]; exact p1, by rw [e3 29 2 (by omega)]; exact p2, p3.1, fun e => p3.2.1 (by rw [← (stN_ok (hv q) hpos).2.2.1]; exact e)⟩) (fun X3 w1 w2 w3 w4 w5 => ?_))
      refine g_iload_n rfl dX7_step_16 ?_
      refine g_ireturn rfl dX7_step_17 ?_
      first
        | exact h0 q
        | exact h1 q hneg
        | (rw [e3 29 0 (by omega)] at w4 w5
           refine h2 q hpos X3 ⟨e0.fr (fun d k z1 z2 => w2 d k (by omega) (by omega)), w1, ?_, ?_, w4, w5, ?_, ?_⟩
           · rw [w2 5 2 (by omega) (by omega)]; exact e1
           · rw [w2 5 3 (by omega) (by omega)]; exact e2
           · intro j hj
             rw [w3 j hj, e3 29 j (by omega)]
           · intro d j hd h29
             rw [w2 d j (by omega) h29, e3 d j (by omega)])
set_option maxRecDepth 100000 in
set_option maxHeartbeats 4000000 in
theorem ct_X7_steps {l : Launch} {g : Geo} {X : Mm} {K : AV → Mm → Prop} {v : Mv} {m a b : Int} (hm : -2147483648 ≤ m ∧ m < 2147483648) (hX : MvC X 5 v) (hv : vn v ≠ 0 → Vd v) (ht : X 29 0 = 0 ∨ X 29 0 = 1) (hpt : X 29 0 = 1 → X 29 1 = a ∧ X 29 2 = b ∧ ptOk v a b) (h0 : (vn v = 0 ∨ m < 1 ∨ 1000 < m) → K (vI (-1)) X) (h1 : vn v ≠ 0 → (1 ≤ m ∧ m ≤ 1000) → ∀ X2, StC X (stC m.toNat v).2.1 a b (stC m.toNat v).1 (stC m.toNat v).2.2 X2 → K (vI ((stC m.toNat v).1 : Int)) X2) : Ct l g mX7_steps [vR 0, vI m] X K := by
  refine enter (by decide) (Nat.le_of_ble_eq_true rfl) (fun κ => ?_)
  have x1 : X 5 0 = (vn v : Int) := hX.1
  rcases Nat.eq_zero_or_pos (vn v) with hz | hz
  · have hz2 := hz
    refine g_aload_n rfl dX7_steps_0 ?_
    refine gf_X7_23 (c2 := 5) rfl rfl (by first | rfl | assumption) dX7_steps_1 ?_
    refine gf_X7_74 rfl (by first | rfl | assumption) dX7_steps_4 ?_
    refine g_if_eq (t := 22) dX7_steps_7 (by decide) (by first | omega | (simp [st2]; done) | (simp [st2]; omega)) (fun b7 => ?_) (fun b7 => ?_)
    · refine g_iconst dX7_steps_22 ?_
      refine g_ireturn rfl dX7_steps_23 ?_
      exact h0 (Or.inl hz)
    · exfalso; omega
  · have hv := hv (by omega)
    have hn8 := hv.2.1
    obtain ⟨R, hR⟩ : ∃ R, R = stC m.toNat v := ⟨_, rfl⟩
    rw [← hR] at h1
    have loop : (1 ≤ m ∧ m ≤ 1000) → ∀ k : Nat, k ≤ m.toNat → ∀ (w : Mv) (su : Int) (X2 : Mm), Vd w → vr w = vr v → R.1 = k + (stC (m.toNat - k) w).1 → R.2.1 = (stC (m.toNat - k) w).2.1 → R.2.2 = su + (stC (m.toNat - k) w).2.2 → MvC X2 5 w → X2 5 2 = X 5 2 + k → X2 5 3 = X 5 3 + su → (∀ d j, (d < 5 ∨ 10 < d) → X2 d j = X d j) → G l g mX7_steps κ K 26 [(0, vR 0), (1, vI m), (2, vI (k : Int))] [] X2 := by
      intro hmm
      refine upTo m.toNat ?_
      intro k hkm ih w su X2 hw hwr r1 r2 r3 hm2 c2 c3 fr
      have hrg := stR_rng w
      refine g_iload_n rfl dX7_steps_26 ?_
      refine g_iload_n rfl dX7_steps_27 ?_
      refine g_icmp_ge (t := 47) dX7_steps_28 (by decide) (by first | omega | (simp [st2]; done) | (simp [st2]; omega)) (by first | omega | (simp [st2]; done) | (simp [st2]; omega)) (fun b28 => ?_) (fun b28 => ?_)
      · have r0 : stC (m.toNat - k) w = (0, w, 0) := by
          first
            | exact stC_0 hneg
            | (rw [show m.toNat - k = 0 by omega]; rfl)
        rw [r0] at r1 r2 r3
        dsimp only at r1 r2 r3
        refine g_aload_n rfl dX7_steps_47 ?_
        refine g_cv0v (M2 := mX7_followMover) (ci := 7) dX7_steps_48 ml_RX7_170 kX7_followMover rfl (by first | rfl | assumption) (by decide) rfl (by unfold Rm; decide) (Nat.le_of_ble_eq_true rfl) (ct_X7_followMover (v := w) (a := a) (b := b) hm2 hw (by rw [fr 29 0 (by omega)]; exact ht) (fun z => by
  rw [fr 29 0 (by omega)] at z
  obtain ⟨p1, p2, p3⟩ := hpt z
  exact ⟨by rw [fr 29 1 (by omega)]; exact p1, by rw [fr 29 2 (by omega)]; exact p2, p3.1, fun e => p3.2.1 (by rw [← hwr]; exact e)⟩) (fun X3 w1 w2 w3 w4 w5 => ?_))
        refine g_iload_n rfl dX7_steps_51 ?_
        refine g_ireturn rfl dX7_steps_52 ?_
        rw [fr 29 0 (by omega)] at w4 w5
        refine kE (h1 (by omega) hmm X3 ?_) (by rw [r1]; rfl)
        rw [r1, r2, r3, Int.add_zero]
        refine ⟨hm2.fr (fun d k z1 z2 => w2 d k (by omega) (by omega)), w1, ?_, ?_, w4, w5, ?_, ?_⟩
        · rw [w2 5 2 (by omega) (by omega)]; exact c2
        · rw [w2 5 3 (by omega) (by omega)]; exact c3
        · intro j hj
          rw [w3 j hj, fr 29 j (by omega)]
        · intro d j hd h29
          rw [w2 d j (by omega) h29, fr d j (by omega)]
      · refine g_aload_n rfl dX7_steps_31 ?_
        refine gf_X7_23 (c2 := 5) rfl rfl (by first | rfl | assumption) dX7_steps_32 ?_
        refine g_cv0 (M2 := mX3_advance) (ci := 3) dX7_steps_35 ml_RX7_167 kX3_advance (by decide) (by first | rfl | assumption) (by decide) rfl (by unfold Rm; decide) (Nat.le_of_ble_eq_true rfl) (ct_X3_advance_5 (v := w) hm2 (fun _ => hw) (fun q => absurd q (by have := hw.1; omega)) (fun _ hneg => ?_) (fun _ hpos X3 e0 e1 e2 e3 => ?_))
        · refine g_if_lt (t := 47) dX7_steps_38 (by decide) (by first | omega | (simp [st2]; done) | (simp [st2]; omega)) (fun b38 => ?_) (fun b38 => ?_)
          · have r0 : stC (m.toNat - k) w = (0, w, 0) := by
              first
                | exact stC_0 hneg
                | (rw [show m.toNat - k = 0 by omega]; rfl)
            rw [r0] at r1 r2 r3
            dsimp only at r1 r2 r3
            refine g_aload_n rfl dX7_steps_47 ?_
            refine g_cv0v (M2 := mX7_followMover) (ci := 7) dX7_steps_48 ml_RX7_170 kX7_followMover rfl (by first | rfl | assumption) (by decide) rfl (by unfold Rm; decide) (Nat.le_of_ble_eq_true rfl) (ct_X7_followMover (v := w) (a := a) (b := b) hm2 hw (by rw [fr 29 0 (by omega)]; exact ht) (fun z => by
  rw [fr 29 0 (by omega)] at z
  obtain ⟨p1, p2, p3⟩ := hpt z
  exact ⟨by rw [fr 29 1 (by omega)]; exact p1, by rw [fr 29 2 (by omega)]; exact p2, p3.1, fun e => p3.2.1 (by rw [← hwr]; exact e)⟩) (fun X3 w1 w2 w3 w4 w5 => ?_))
            refine g_iload_n rfl dX7_steps_51 ?_
            refine g_ireturn rfl dX7_steps_52 ?_
            rw [fr 29 0 (by omega)] at w4 w5
            refine kE (h1 (by omega) hmm X3 ?_) (by rw [r1]; rfl)
            rw [r1, r2, r3, Int.add_zero]
            refine ⟨hm2.fr (fun d k z1 z2 => w2 d k (by omega) (by omega)), w1, ?_, ?_, w4, w5, ?_, ?_⟩
            · rw [w2 5 2 (by omega) (by omega)]; exact c2
            · rw [w2 5 3 (by omega) (by omega)]; exact c3
            · intro j hj
              rw [w3 j hj, fr 29 j (by omega)]
            · intro d j hd h29
              rw [w2 d j (by omega) h29, fr d j (by omega)]
          · exact absurd hneg b38
        · refine g_if_lt (t := 47) dX7_steps_38 (by decide) (by first | omega | (simp [st2]; done) | (simp [st2]; omega)) (fun b38 => ?_) (fun b38 => ?_)
          · exact absurd hpos (by omega)
          · refine g_iinc rfl (by decide) dX7_steps_41 ?_
            refine g_goto (t := 26) dX7_steps_44 (by decide) ?_
            obtain ⟨d, hd⟩ : ∃ d, m.toNat - k = d + 1 := ⟨m.toNat - k - 1, by omega⟩
            rw [hd, stC_1 hpos] at r1 r2 r3
            dsimp only at r1 r2 r3
            have hok := stN_ok hw hpos
            refine g_subl [(0, vR 0), (1, vI m), (2, vI ((k + 1 : Nat) : Int))] rfl ?_
            refine ih (k + 1) (by omega) (by omega) (stN w) (su + stR w) X3 hok.1 (hok.2.2.1.trans hwr) ?_ ?_ ?_ e0 (by omega) (by omega) (fun d j hd => (e3 d j hd).trans (fr d j hd))
            · rw [show m.toNat - (k + 1) = d by omega]; omega
            · rw [show m.toNat - (k + 1) = d by omega]; exact r2
            · rw [show m.toNat - (k + 1) = d by omega]; omega
    refine g_aload_n rfl dX7_steps_0 ?_
    refine gf_X7_23 (c2 := 5) rfl rfl (by first | rfl | assumption) dX7_steps_1 ?_
    refine gf_X7_74 rfl (by first | rfl | assumption) dX7_steps_4 ?_
    refine g_if_eq (t := 22) dX7_steps_7 (by decide) (by first | omega | (simp [st2]; done) | (simp [st2]; omega)) (fun b7 => ?_) (fun b7 => ?_)
    · exfalso; omega
    · refine g_iload_n rfl dX7_steps_10 ?_
      refine g_iconst dX7_steps_11 ?_
      refine g_icmp_lt (t := 22) dX7_steps_12 (by decide) (by first | omega | (simp [st2]; done) | (simp [st2]; omega)) (by first | omega | (simp [st2]; done) | (simp [st2]; omega)) (fun b12 => ?_) (fun b12 => ?_)
      · refine g_iconst dX7_steps_22 ?_
        refine g_ireturn rfl dX7_steps_23 ?_
        exact h0 (by omega)
      · refine g_iload_n rfl dX7_steps_15 ?_
        refine g_sipush (by decide) dX7_steps_16 ?_
        refine g_icmp_le (t := 24) dX7_steps_19 (by decide) (by first | omega | (simp [st2]; done) | (simp [st2]; omega)) (by first | omega | (simp [st2]; done) | (simp [st2]; omega)) (fun b19 => ?_) (fun b19 => ?_)
        · refine g_iconst dX7_steps_24 ?_
          refine g_istore_n (by decide) dX7_steps_25 ?_
          refine g_subl [(0, vR 0), (1, vI m), (2, vI ((0 : Nat) : Int))] rfl ?_
          exact loop (by omega) 0 (by omega) v 0 X hv rfl (by rw [hR]; simp) (by rw [hR]; rfl) (by rw [hR]; simp) hX (by omega) (by omega) (fun _ _ _ => rfl)
        · refine g_iconst dX7_steps_22 ?_
          refine g_ireturn rfl dX7_steps_23 ?_
          exact h0 (by omega)
