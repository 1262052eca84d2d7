/-! STEPS -/
/-- up to so many STEPS: how many, the mover behind them, how often u won -/
noncomputable def stC : Nat → Mv → Nat × Mv × Int
  | 0, v => (0, v, 0)
  | d + 1, v => if 0 ≤ stR v then ((stC d (stN v)).1 + 1, (stC d (stN v)).2.1, (stC d (stN v)).2.2 + stR v) else (0, v, 0)
theorem stC_1 {v : Mv} {d : Nat} (h : 0 ≤ stR v) : stC (d + 1) v = ((stC d (stN v)).1 + 1, (stC d (stN v)).2.1, (stC d (stN v)).2.2 + stR v) := by
  rw [stC, if_pos h]
theorem stC_0 {v : Mv} {d : Nat} (h : stR v < 0) : stC d v = (0, v, 0) := by
  cases d with
  | zero => rfl
  | succ d => rw [stC, if_neg (by omega)]
theorem stR_rng (v : Mv) : -4 ≤ stR v ∧ stR v ≤ 1 := by
  unfold stR
  repeat' split
  all_goals omega
theorem onL_up {v : Mv} (hv : Vd v) (h : 0 ≤ stR v) {a b : Int} (ho : onL (stN v) a b) : onL v a b := by
  obtain ⟨h1, h2, h3, h4⟩ := stN_ok hv h
  obtain ⟨o1, o2⟩ := ho
  rw [h3] at o1 o2
  exact ⟨o1, by omega⟩
def StM (X : Mm) (v2 : Mv) (a b : Int) (k su : Int) (X2 : Mm) : Prop := MvM X2 v2 ∧ X2 44 11 = X 44 11 + k ∧ X2 44 12 = X 44 12 + su ∧ ((X 44 13 = 1 ∧ onL v2 a b) → X2 44 13 = 1) ∧ (¬ (X 44 13 = 1 ∧ onL v2 a b) → X2 44 13 = 0) ∧ (∀ j, j ≠ 11 → j ≠ 12 → j ≠ 13 → X2 44 j = X 44 j) ∧ ∀ d j, d ≠ 44 → (d < 48 ∨ 52 < d) → X2 d j = X d j
theorem stM_s {X X2 X3 : Mm} {v : Mv} {a b k su : Int} (hv : Vd v) (hR : 0 ≤ stR v) (h : StM X v a b k su X2) (e0 : MvM X3 (stN v)) (e1 : X3 44 11 = X2 44 11 + 1) (e2 : X3 44 12 = X2 44 12 + stR v) (e3 : (X2 44 13 = 1 ∧ onL (stN v) a b) → X3 44 13 = 1) (e4 : ¬ (X2 44 13 = 1 ∧ onL (stN v) a b) → X3 44 13 = 0) (e5 : ∀ j, j ≠ 11 → j ≠ 12 → j ≠ 13 → X3 44 j = X2 44 j) (e6 : ∀ d j, d ≠ 44 → (d < 48 ∨ 52 < d) → X3 d j = X2 d j) : StM X (stN v) a b (k + 1) (su + stR v) X3 := by
  obtain ⟨m0, m1, m2, m3, m4, m5, m6⟩ := h
  refine ⟨e0, by omega, by omega, fun q => e3 ⟨m3 ⟨q.1, onL_up hv hR q.2⟩, q.2⟩, fun q => e4 (fun z => q ⟨?_, z.2⟩), fun j j1 j2 j3 => (e5 j j1 j2 j3).trans (m5 j j1 j2 j3), fun d j d1 d2 => (e6 d j d1 d2).trans (m6 d j d1 d2)⟩
  by_cases c : X 44 13 = 1 ∧ onL v a b
  · exact c.1
  · have := m4 c
    omega
theorem StM.has {X X2 : Mm} {v : Mv} {a b k su : Int} (h : StM X v a b k su X2) : X2 44 13 = 0 ∨ X2 44 13 = 1 := by
  by_cases c : X 44 13 = 1 ∧ onL v a b
  · exact Or.inr (h.2.2.2.1 c)
  · exact Or.inl (h.2.2.2.2.1 c)
theorem StM.has1 {X X2 : Mm} {v : Mv} {a b k su : Int} (h : StM X v a b k su X2) (h1 : X2 44 13 = 1) : X 44 13 = 1 ∧ onL v a b := by
  by_cases c : X 44 13 = 1 ∧ onL v a b
  · exact c
  · have := h.2.2.2.2.1 c
    omega
theorem StM.rf {X : Mm} {v : Mv} {a b : Int} (hX : MvM X v) (ht : X 44 13 = 0 ∨ X 44 13 = 1) (ho : X 44 13 = 1 → onL v a b) : StM X v a b 0 0 X := ⟨hX, by omega, by omega, fun q => q.1, fun q => ht.elim id (fun z => absurd ⟨z, ho z⟩ q), fun _ _ _ _ => rfl, fun _ _ _ _ => rfl⟩
set_option maxRecDepth 100000 in
set_option maxHeartbeats 4000000 in
theorem ct_X8_steps {l : Launch} {g : Geo} {X : Mm} {K : AV → Mm → Prop} {v : Mv} {m a b : Int} (hm : -2147483648 ≤ m ∧ m < 2147483648) (hX : MvM X v) (hv : vn v ≠ 0 → Vd v) (ht : X 44 13 = 0 ∨ X 44 13 = 1) (hpt : X 44 13 = 1 → X 44 14 = a ∧ X 44 15 = b ∧ ptOk v a b) (h0 : (vn v = 0 ∨ m < 1 ∨ 1000 < m) → K (vI (-1)) X) (h1 : vn v ≠ 0 → (1 ≤ m ∧ m ≤ 1000) → ∀ X2, StM X (stC m.toNat v).2.1 a b (stC m.toNat v).1 (stC m.toNat v).2.2 X2 → K (vI ((stC m.toNat v).1 : Int)) X2) : Ct l g mX8_steps [vR 44, vI m] X K := by
  refine enter (by decide) (Nat.le_of_ble_eq_true rfl) (fun κ => ?_)
  have x1 := hX.1
  rcases Nat.eq_zero_or_pos (vn v) with hz | hz
  · have hz2 := hz
    refine g_aload_n rfl dX8_steps_0 ?_
    refine gf_X8_94 rfl (by first | rfl | assumption) dX8_steps_1 ?_
    refine g_if_eq (t := 19) dX8_steps_4 (by decide) (by first | omega | (simp [st2]; done) | (simp [st2]; omega)) (fun b4 => ?_) (fun b4 => ?_)
    · refine g_iconst dX8_steps_19 ?_
      refine g_ireturn rfl dX8_steps_20 ?_
      exact h0 (Or.inl hz)
    · exfalso; omega
  · have hv := hv (by omega)
    have hn8 := hv.2.1
    obtain ⟨R, hR⟩ : ∃ R, R = stC m.toNat v := ⟨_, rfl⟩
    rw [← hR] at h1
    have loop : (1 ≤ m ∧ m ≤ 1000) → ∀ k : Nat, k ≤ m.toNat → ∀ (w : Mv) (su : Int) (X2 : Mm), Vd w → vr w = vr v → R.1 = k + (stC (m.toNat - k) w).1 → R.2.1 = (stC (m.toNat - k) w).2.1 → R.2.2 = su + (stC (m.toNat - k) w).2.2 → StM X w a b k su X2 → G l g mX8_steps κ K 23 [(0, vR 44), (1, vI m), (2, vI (k : Int))] [] X2 := by
      intro hmm
      refine upTo m.toNat ?_
      intro k hkm ih w su X2 hw hwr r1 r2 r3 hs
      refine g_iload_n rfl dX8_steps_23 ?_
      refine g_iload_n rfl dX8_steps_24 ?_
      refine g_icmp_ge (t := 41) dX8_steps_25 (by decide) (by first | omega | (simp [st2]; done) | (simp [st2]; omega)) (by first | omega | (simp [st2]; done) | (simp [st2]; omega)) (fun b25 => ?_) (fun b25 => ?_)
      · refine g_iload_n rfl dX8_steps_41 ?_
        refine g_ireturn rfl dX8_steps_42 ?_
        have r0 : stC (m.toNat - k) w = (0, w, 0) := by
          first
            | exact stC_0 hneg
            | (rw [show m.toNat - k = 0 by omega]; rfl)
        rw [r0] at r1 r2 r3
        dsimp only at r1 r2 r3
        refine kE (h1 (by omega) hmm X2 ?_) (by rw [r1]; rfl)
        rw [r1, r2, r3, Int.add_zero]
        exact hs
      · refine g_aload_n rfl dX8_steps_28 ?_
        refine g_cv0 (M2 := mX8_step) (ci := 8) dX8_steps_29 ml_RX8_175 kX8_step (by decide) (by first | rfl | assumption) (by decide) rfl (by unfold Rm; decide) (Nat.le_of_ble_eq_true rfl) (ct_X8_step (v := w) (a := a) (b := b) hs.1 (fun _ => hw) hs.has (fun z => by
  obtain ⟨z1, z2⟩ := hs.has1 z
  obtain ⟨p1, p2, p3⟩ := hpt z1
  exact ⟨by rw [hs.2.2.2.2.2.1 14 (by decide) (by decide) (by decide)]; exact p1, by rw [hs.2.2.2.2.2.1 15 (by decide) (by decide) (by decide)]; exact p2, p3.1, fun e => p3.2.1 (by rw [← hwr]; exact e)⟩) (fun q => absurd q (by have := hw.1; omega)) (fun _ hneg => ?_) (fun _ hpos X3 e0 e1 e2 e3 e4 e5 e6 => ?_))
        · refine g_if_lt (t := 41) dX8_steps_32 (by decide) (by have := stR_rng w; omega) (fun b32 => ?_) (fun b32 => ?_)
          · refine g_iload_n rfl dX8_steps_41 ?_
            refine g_ireturn rfl dX8_steps_42 ?_
            have r0 : stC (m.toNat - k) w = (0, w, 0) := by
              first
                | exact stC_0 hneg
                | (rw [show m.toNat - k = 0 by omega]; rfl)
            rw [r0] at r1 r2 r3
            dsimp only at r1 r2 r3
            refine kE (h1 (by omega) hmm X2 ?_) (by rw [r1]; rfl)
            rw [r1, r2, r3, Int.add_zero]
            exact hs
          · exact absurd hneg b32
        · refine g_if_lt (t := 41) dX8_steps_32 (by decide) (by have := stR_rng w; omega) (fun b32 => ?_) (fun b32 => ?_)
          · exact absurd hpos (by omega)
          · refine g_iinc rfl (by decide) dX8_steps_35 ?_
            refine g_goto (t := 23) dX8_steps_38 (by decide) ?_
            obtain ⟨d, hd⟩ : ∃ d, m.toNat - k = d + 1 := ⟨m.toNat - k - 1, by omega⟩
            rw [hd, stC_1 hpos] at r1 r2 r3
            dsimp only at r1 r2 r3
            have hok := stN_ok hw hpos
            refine g_subl [(0, vR 44), (1, vI m), (2, vI ((k + 1 : Nat) : Int))] rfl ?_
            refine ih (k + 1) (by omega) (by omega) (stN w) (su + stR w) X3 hok.1 (hok.2.2.1.trans hwr) ?_ ?_ ?_ (stM_s hw hpos hs e0 e1 e2 e3 e4 e5 e6)
            · rw [show m.toNat - (k + 1) = d by omega]; omega
            · rw [show m.toNat - (k + 1) = d by omega]; exact r2
            · rw [show m.toNat - (k + 1) = d by omega]; omega
    refine g_aload_n rfl dX8_steps_0 ?_
    refine gf_X8_94 rfl (by first | rfl | assumption) dX8_steps_1 ?_
    refine g_if_eq (t := 19) dX8_steps_4 (by decide) (by first | omega | (simp [st2]; done) | (simp [st2]; omega)) (fun b4 => ?_) (fun b4 => ?_)
    · exfalso; omega
    · refine g_iload_n rfl dX8_steps_7 ?_
      refine g_iconst dX8_steps_8 ?_
      refine g_icmp_lt (t := 19) dX8_steps_9 (by decide) (by first | omega | (simp [st2]; done) | (simp [st2]; omega)) (by first | omega | (simp [st2]; done) | (simp [st2]; omega)) (fun b9 => ?_) (fun b9 => ?_)
      · refine g_iconst dX8_steps_19 ?_
        refine g_ireturn rfl dX8_steps_20 ?_
        exact h0 (by omega)
      · refine g_iload_n rfl dX8_steps_12 ?_
        refine g_sipush (by decide) dX8_steps_13 ?_
        refine g_icmp_le (t := 21) dX8_steps_16 (by decide) (by first | omega | (simp [st2]; done) | (simp [st2]; omega)) (by first | omega | (simp [st2]; done) | (simp [st2]; omega)) (fun b16 => ?_) (fun b16 => ?_)
        · refine g_iconst dX8_steps_21 ?_
          refine g_istore_n (by decide) dX8_steps_22 ?_
          refine g_subl [(0, vR 44), (1, vI m), (2, vI ((0 : Nat) : Int))] rfl ?_
          exact loop (by omega) 0 (by omega) v 0 X hv rfl (by rw [hR]; simp) (by rw [hR]; rfl) (by rw [hR]; simp) (StM.rf hX ht (fun z => (hpt z).2.2.2.2))
        · refine g_iconst dX8_steps_19 ?_
          refine g_ireturn rfl dX8_steps_20 ?_
          exact h0 (by omega)
