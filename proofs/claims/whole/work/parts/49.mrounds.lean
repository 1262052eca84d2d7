/-! the reference's rounds: cells 61 (to), 62 (in), 63 (seen) -/
def ToM (X : Mm) (v : Mv) : Prop := ∀ p, p < pN v → X 61 p = (pT v p : Int) ∧ X 62 p = (va v (pS v p) : Int)
def FrR (X X2 : Mm) : Prop := ∀ d j, (d < 58 ∨ 63 < d) → ¬ (d = 44 ∧ (16 ≤ j ∧ j ≤ 19 ∨ j = 25)) → X2 d j = X d j
theorem FrR.mv {X X2 : Mm} {v : Mv} (h : FrR X X2) (hX : MvM X v) : MvM X2 v := hX.fr (h 44 0 (by omega) (by omega)) (h 44 5 (by omega) (by omega)) (fun d j h1 h2 => h d j (by omega) (by omega))
theorem tA_pN {X : Mm} {v : Mv} (hX : MvM X v) (hv : Vd v) : ps (fun k => if (0 : Int) = 0 then X 48 k else X 49 k) id (vn v) = ps (vA v) (va v) (vn v) := by
  rw [hX.tA, ps_perm hv.2.2.2.2.1]
  rfl
set_option maxRecDepth 100000 in
set_option maxHeartbeats 4000000 in
theorem ct_X8_pieces {l : Launch} {g : Geo} {X : Mm} {K : AV → Mm → Prop} {v : Mv} (hX : MvM X v) (hv : Vd v) (hr : vr v = 0) (hN : pN v ≤ 2000) (hk : ∀ X2, FrR X X2 → X2 44 25 = X 44 25 → (∀ d j, (d = 58 ∨ d = 59 ∨ d = 60) → X2 d j = X d j) → ToM X2 v → K (vI (pN v : Int)) X2) : Ct l g mX8_pieces [vR 44] X K := by
  refine enter (by decide) (Nat.le_of_ble_eq_true rfl) (fun κ => ?_)
  have hn8 := hv.2.1
  have hNc := pN_c hv hr
  have x1 : X 44 5 = (vn v : Int) := hX.1
  have loop : ∀ k, k ≤ pN v → ∀ X2, FrR X X2 → X2 44 25 = X 44 25 → (∀ d j, (d = 58 ∨ d = 59 ∨ d = 60) → X2 d j = X d j) → (∀ p, p < k → X2 61 p = (pT v p : Int) ∧ X2 62 p = (va v (pS v p) : Int)) → G l g mX8_pieces κ K 9 [(0, vR 44), (1, vI (pN v : Int)), (2, vI (k : Int))] [] X2 := by
    refine upTo _ ?_
    intro k hkN ih X2 hfr e25 e58 hrow
    have hM := hfr.mv hX
    refine g_iload_n rfl dX8_pieces_9 ?_
    refine g_iload_n rfl dX8_pieces_10 ?_
    refine g_icmp_ge (t := 56) dX8_pieces_11 (by decide) (by first | omega | (simp [st2]; done) | (simp [st2]; omega)) (by first | omega | (simp [st2]; done) | (simp [st2]; omega)) (fun b11 => ?_) (fun b11 => ?_)
    · refine g_iload_n rfl dX8_pieces_56 ?_
      refine g_ireturn rfl dX8_pieces_57 ?_
      obtain rfl : k = pN v := by omega
      exact hk X2 hfr e25 e58 hrow
    · have hkl : k < pN v := by omega
      have hO := pO hv hr hkl
      have hB : pB (k : Int) 0 := by unfold pB; omega
      have hTc := pT_c hv hr hkl
      refine g_aload_n rfl dX8_pieces_14 ?_
      refine gf_X8_62 (c2 := 62) rfl rfl (by first | rfl | assumption) dX8_pieces_15 ?_
      refine g_iload_n rfl dX8_pieces_18 ?_
      refine g_aload_n rfl dX8_pieces_19 ?_
      refine g_aload_n rfl dX8_pieces_20 ?_
      refine gf_X8_26 (c2 := 50) rfl rfl (by first | rfl | assumption) dX8_pieces_21 ?_
      refine g_iload_n rfl dX8_pieces_24 ?_
      refine g_i2l (by first | omega | (simp [st2]; done) | (simp [st2]; omega)) dX8_pieces_25 ?_
      refine g_lconst rfl dX8_pieces_26 ?_
      refine g_cv3 (M2 := mX8_spanAt) (ci := 8) dX8_pieces_27 ml_RX8_135 kX8_spanAt (by decide) (by first | rfl | assumption) (by decide) rfl (by unfold Rm; decide) (Nat.le_of_ble_eq_true rfl) (ct_X8_spanAt (a := (k : Int)) (b := 0) (f := va v) hM hv hv.2.2.2.2.1 rfl rfl (by decide) (fun j hj => (hM.2.2.1 j hj).2.2.1) hB hO.1 hO.2 ?_)
      obtain ⟨X3, eX3⟩ : ∃ X3, X3 = lf X2 (ps (vA v) (va v) (sidx v (va v) (val (vr v) (k : Int) 0))) (ps (vB v) (va v) (sidx v (va v) (val (vr v) (k : Int) 0))) := ⟨_, rfl⟩
      rw [← eX3]
      have hs3 : Sc X2 X3 := by rw [eX3]; exact Sc.lf _ _ _
      have hM3 : ∀ w, MvM (st2 X3 62 k w) v := fun w => (MvM.sc hs3 hM).fr rfl rfl (fun d j h1 h2 => by
        have y : d ≠ 62 := by omega
        simp only [st2, if_neg y])
      refine g_iast (n := 2000) (k) (by first | rfl | assumption) (by first | rfl | assumption) (by omega) (by first | omega | (simp [st2]; done) | (simp [st2]; omega)) (by first | omega | (simp [st2]; done) | (simp [st2]; omega)) dX8_pieces_30 ?_
      refine g_aload_n rfl dX8_pieces_31 ?_
      refine g_iload_n rfl dX8_pieces_32 ?_
      refine g_i2l (by first | omega | (simp [st2]; done) | (simp [st2]; omega)) dX8_pieces_33 ?_
      refine g_lconst rfl dX8_pieces_34 ?_
      refine g_iconst dX8_pieces_35 ?_
      refine g_cv3v (M2 := mX8_goes) (ci := 8) dX8_pieces_36 ml_RX8_163 kX8_goes rfl (by first | rfl | assumption) (by decide) rfl (by unfold Rm; decide) (Nat.le_of_ble_eq_true rfl) (ct_X8_goes (a := (k : Int)) (b := 0) (f := va v) (h := vu v) (Or.inl ⟨rfl, rfl, rfl⟩) (hM3 _) hv hB hO (fun X4 hs4 eA eB => ?_))
      refine g_aload_n rfl dX8_pieces_39 ?_
      refine gf_X8_59 (c2 := 61) rfl rfl (by first | rfl | assumption) dX8_pieces_40 ?_
      refine g_iload_n rfl dX8_pieces_43 ?_
      refine g_aload_n rfl dX8_pieces_44 ?_
      refine gf_X8_139 rfl (by first | rfl | assumption) dX8_pieces_45 ?_
      rw [eA, ← hTc.1]
      refine g_l2i dX8_pieces_48 ?_
      refine g_iast (n := 2000) (k) (by first | rfl | assumption) (by first | rfl | assumption) (by omega) (by first | omega | (simp [st2]; done) | (simp [st2]; omega)) (by first | omega | (simp [st2]; done) | (simp [st2]; omega)) dX8_pieces_49 ?_
      refine g_iinc rfl (by decide) dX8_pieces_50 ?_
      refine g_goto (t := 9) dX8_pieces_53 (by decide) ?_
      refine g_subl [(0, vR 44), (1, vI (pN v : Int)), (2, vI ((k + 1 : Nat) : Int))] rfl ?_
      refine ih (k + 1) (by omega) (by omega) _ (fun d j hd hq => ?_) ?_ (fun d j hd => ?_) (fun p hp => ?_)
      · have y1 : d ≠ 61 := by omega
        have y2 : d ≠ 62 := by omega
        simp only [st2, if_neg y1]
        by_cases z : d = 44
        · subst z
          rw [hs4.2 j (by omega)]
          show X3 44 j = _
          rw [hs3.2 j (by omega)]
          exact hfr 44 j hd hq
        · rw [hs4.1 d j z]
          simp only [st2, if_neg y2]
          rw [hs3.1 d j z]
          exact hfr d j hd hq
      · show X4 44 25 = _
        rw [hs4.2 25 (by omega)]
        show X3 44 25 = _
        rw [hs3.2 25 (by omega)]
        exact e25
      · have y1 : d ≠ 61 := by omega
        have y2 : d ≠ 62 := by omega
        have y3 : d ≠ 44 := by omega
        simp only [st2, if_neg y1]
        rw [hs4.1 d j y3]
        simp only [st2, if_neg y2]
        rw [hs3.1 d j y3]
        exact e58 d j hd
      · by_cases z : p = k
        · subst z
          refine ⟨by simp [st2], ?_⟩
          show X4 62 p = _
          rw [hs4.1 62 p (by decide)]
          simp [st2]
          rfl
        · have h5 := hrow p (by omega)
          refine ⟨?_, ?_⟩
          · simp only [st2, if_true, if_neg z]
            rw [hs4.1 61 p (by decide)]
            show X3 61 p = _
            rw [hs3.1 61 p (by decide)]
            exact h5.1
          · show X4 62 p = _
            rw [hs4.1 62 p (by decide)]
            simp only [st2, if_true, if_neg z]
            rw [hs3.1 62 p (by decide)]
            exact h5.2
  refine g_aload_n rfl dX8_pieces_0 ?_
  refine g_iconst dX8_pieces_1 ?_
  refine g_cv1 (M2 := mX8_total) (ci := 8) dX8_pieces_2 ml_RX8_124 kX8_total (by decide) (by first | rfl | assumption) (by decide) rfl (by unfold Rm; decide) (Nat.le_of_ble_eq_true rfl) (ct_X8_total (by omega) x1 hn8 ?_)
  rw [tA_pN hX hv, ← hNc]
  refine g_l2i dX8_pieces_5 ?_
  refine g_istore_n (by decide) dX8_pieces_6 ?_
  refine g_iconst dX8_pieces_7 ?_
  refine g_istore_n (by decide) dX8_pieces_8 ?_
  refine g_subl [(0, vR 44), (1, vI (pN v : Int)), (2, vI ((0 : Nat) : Int))] rfl ?_
  exact loop 0 (by omega) X (fun _ _ _ _ => rfl) rfl (fun _ _ _ => rfl) (fun p hp => by omega)
set_option maxRecDepth 100000 in
set_option maxHeartbeats 4000000 in
theorem ct_X8_isJoined {l : Launch} {g : Geo} {X : Mm} {K : AV → Mm → Prop} {v : Mv} {k : Nat} (hv : Vd v) (hr : vr v = 0) (hN : pN v ≤ 2000) (hT : ToM X v) (hkN : k < pN v) (h1 : 2 ≤ mnP (pN v) (pT v) (pR v) k → K (vI 1) X) (h0 : ¬ 2 ≤ mnP (pN v) (pT v) (pR v) k → K (vI 0) X) : Ct l g mX8_isJoined [vR 44, vI (k : Int), vI (pN v : Int)] X K := by
  refine enter (by decide) (Nat.le_of_ble_eq_true rfl) (fun κ => ?_)
  have hP := pcs_ok hv hr
  have hn8 := hv.2.1
  obtain ⟨q1, q2, q3, q4⟩ := perP_spec hP hkN
  obtain ⟨m1, m2, m3, m4⟩ := mn_spec hP hkN
  have loop : ∀ i, i ≤ perP (pN v) (pT v) k → ∀ w : Int, (w = 1 ∧ i = 0) ∨ (w = 0 ∧ 0 < i) → (∀ q, q < i → 2 ≤ pR v (itP (pT v) q k)) → G l g mX8_isJoined κ K 5 [(0, vR 44), (1, vI (k : Int)), (2, vI (pN v : Int)), (3, vI (itP (pT v) i k : Int)), (4, vI w)] [] X := by
    refine upTo _ ?_
    intro i hi ih w hw hall
    have hlt := itP_lt hP hkN i
    have hlt2 := itP_lt hP hkN (i + 1)
    have hmi := m1 i
    have hJ := pJ hv hr hlt
    have e61 : X 61 (itP (pT v) i k) = (itP (pT v) (i + 1) k : Int) := (hT _ hlt).1
    have e62 : X 62 (itP (pT v) i k) = (va v (pS v (itP (pT v) i k)) : Int) := (hT _ hlt).2
    have a1 := hv.2.2.2.2.1.1 _ (pS_spec hv hr hlt).1
    refine g_iload rfl dX8_isJoined_5 ?_
    refine g_if_ne (t := 15) dX8_isJoined_7 (by decide) (by first | omega | (simp [st2]; done) | (simp [st2]; omega)) (fun b7 => ?_) (fun b7 => ?_)
    · have hip : i < perP (pN v) (pT v) k := by omega
      refine g_iconst dX8_isJoined_15 ?_
      refine g_istore (by decide) dX8_isJoined_16 ?_
      refine g_iload_n rfl dX8_isJoined_18 ?_
      refine g_iconst dX8_isJoined_19 ?_
      refine g_iadd dX8_isJoined_20 ?_
      refine g_iload_n rfl dX8_isJoined_21 ?_
      refine g_icmp_ge (t := 42) dX8_isJoined_22 (by decide) (by first | omega | (simp [st2]; done) | (simp [st2]; omega)) (by first | omega | (simp [st2]; done) | (simp [st2]; omega)) (fun b22 => ?_) (fun b22 => ?_)
      · have hno : ¬ 2 ≤ pR v (itP (pT v) i k) := fun z => by
          have := (hJ.mp z).1
          omega
        refine g_iconst dX8_isJoined_42 ?_
        refine g_zreturn rfl (by omega) dX8_isJoined_43 ?_
        exact h0 (by omega)
      · have hp1 : itP (pT v) i k + 1 < pN v := by omega
        have e62b : X 62 (itP (pT v) i k + 1) = (va v (pS v (itP (pT v) i k + 1)) : Int) := (hT _ hp1).2
        have a2 := hv.2.2.2.2.1.1 _ (pS_spec hv hr hp1).1
        refine g_aload_n rfl dX8_isJoined_25 ?_
        refine gf_X8_62 (c2 := 62) rfl rfl (by first | rfl | assumption) dX8_isJoined_26 ?_
        refine g_iload_n rfl dX8_isJoined_29 ?_
        refine g_iald (n := 2000) (itP (pT v) i k) (by first | rfl | assumption) (by first | rfl | assumption) (by omega) (by first | omega | (simp [st2]; done) | (simp [st2]; omega)) (by first | omega | (simp [st2]; done) | (simp [st2]; omega)) dX8_isJoined_30 ?_
        refine g_aload_n rfl dX8_isJoined_31 ?_
        refine gf_X8_62 (c2 := 62) rfl rfl (by first | rfl | assumption) dX8_isJoined_32 ?_
        refine g_iload_n rfl dX8_isJoined_35 ?_
        refine g_iconst dX8_isJoined_36 ?_
        refine g_iadd dX8_isJoined_37 ?_
        refine g_iald (n := 2000) (itP (pT v) i k + 1) (by first | rfl | assumption) (by first | rfl | assumption) (by omega) (by first | omega | (simp [st2]; done) | (simp [st2]; omega)) (by first | omega | (simp [st2]; done) | (simp [st2]; omega)) dX8_isJoined_38 ?_
        refine g_icmp_eq (t := 44) dX8_isJoined_39 (by decide) (by first | omega | (simp [st2]; done) | (simp [st2]; omega)) (by first | omega | (simp [st2]; done) | (simp [st2]; omega)) (fun b39 => ?_) (fun b39 => ?_)
        · have hyes : 2 ≤ pR v (itP (pT v) i k) := hJ.mpr ⟨hp1, by omega⟩
          refine g_aload_n rfl dX8_isJoined_44 ?_
          refine gf_X8_59 (c2 := 61) rfl rfl (by first | rfl | assumption) dX8_isJoined_45 ?_
          refine g_iload_n rfl dX8_isJoined_48 ?_
          refine g_iald (n := 2000) (itP (pT v) i k) (by first | rfl | assumption) (by first | rfl | assumption) (by omega) (by first | omega | (simp [st2]; done) | (simp [st2]; omega)) (by first | omega | (simp [st2]; done) | (simp [st2]; omega)) dX8_isJoined_49 ?_
          rw [e61]
          refine g_istore_n (by decide) dX8_isJoined_50 ?_
          refine g_goto (t := 5) dX8_isJoined_51 (by decide) ?_
          refine g_subl [(0, vR 44), (1, vI (k : Int)), (2, vI (pN v : Int)), (3, vI (itP (pT v) (i + 1) k : Int)), (4, vI 0)] rfl ?_
          refine ih (i + 1) (by omega) (by omega) 0 (Or.inr ⟨rfl, by omega⟩) (fun q hq => ?_)
          rcases Nat.lt_or_ge q i with z | z
          · exact hall q z
          · rw [show q = i by omega]
            exact hyes
        · have hno : ¬ 2 ≤ pR v (itP (pT v) i k) := fun z => by
            have := (hJ.mp z).2
            omega
          refine g_iconst dX8_isJoined_42 ?_
          refine g_zreturn rfl (by omega) dX8_isJoined_43 ?_
          exact h0 (by omega)
    · refine g_iload_n rfl dX8_isJoined_10 ?_
      refine g_iload_n rfl dX8_isJoined_11 ?_
      refine g_icmp_eq (t := 54) dX8_isJoined_12 (by decide) (by first | omega | (simp [st2]; done) | (simp [st2]; omega)) (by first | omega | (simp [st2]; done) | (simp [st2]; omega)) (fun b12 => ?_) (fun b12 => ?_)
      · have hpe : i = perP (pN v) (pT v) k := by
          rcases Nat.lt_or_ge i (perP (pN v) (pT v) k) with z | z
          · exact absurd (by omega) (q4 i (by omega) z)
          · omega
        refine g_iconst dX8_isJoined_54 ?_
        refine g_zreturn rfl (by omega) dX8_isJoined_55 ?_
        refine h1 ?_
        obtain ⟨q, hq, e⟩ := m2
        have := hall q (by omega)
        omega
      · have hip : i < perP (pN v) (pT v) k := by
          rcases Nat.lt_or_ge i (perP (pN v) (pT v) k) with z | z
          · exact z
          · exact absurd (by rw [show i = perP (pN v) (pT v) k by omega, q3]) b12
        refine g_iconst dX8_isJoined_15 ?_
        refine g_istore (by decide) dX8_isJoined_16 ?_
        refine g_iload_n rfl dX8_isJoined_18 ?_
        refine g_iconst dX8_isJoined_19 ?_
        refine g_iadd dX8_isJoined_20 ?_
        refine g_iload_n rfl dX8_isJoined_21 ?_
        refine g_icmp_ge (t := 42) dX8_isJoined_22 (by decide) (by first | omega | (simp [st2]; done) | (simp [st2]; omega)) (by first | omega | (simp [st2]; done) | (simp [st2]; omega)) (fun b22 => ?_) (fun b22 => ?_)
        · have hno : ¬ 2 ≤ pR v (itP (pT v) i k) := fun z => by
            have := (hJ.mp z).1
            omega
          refine g_iconst dX8_isJoined_42 ?_
          refine g_zreturn rfl (by omega) dX8_isJoined_43 ?_
          exact h0 (by omega)
        · have hp1 : itP (pT v) i k + 1 < pN v := by omega
          have e62b : X 62 (itP (pT v) i k + 1) = (va v (pS v (itP (pT v) i k + 1)) : Int) := (hT _ hp1).2
          have a2 := hv.2.2.2.2.1.1 _ (pS_spec hv hr hp1).1
          refine g_aload_n rfl dX8_isJoined_25 ?_
          refine gf_X8_62 (c2 := 62) rfl rfl (by first | rfl | assumption) dX8_isJoined_26 ?_
          refine g_iload_n rfl dX8_isJoined_29 ?_
          refine g_iald (n := 2000) (itP (pT v) i k) (by first | rfl | assumption) (by first | rfl | assumption) (by omega) (by first | omega | (simp [st2]; done) | (simp [st2]; omega)) (by first | omega | (simp [st2]; done) | (simp [st2]; omega)) dX8_isJoined_30 ?_
          refine g_aload_n rfl dX8_isJoined_31 ?_
          refine gf_X8_62 (c2 := 62) rfl rfl (by first | rfl | assumption) dX8_isJoined_32 ?_
          refine g_iload_n rfl dX8_isJoined_35 ?_
          refine g_iconst dX8_isJoined_36 ?_
          refine g_iadd dX8_isJoined_37 ?_
          refine g_iald (n := 2000) (itP (pT v) i k + 1) (by first | rfl | assumption) (by first | rfl | assumption) (by omega) (by first | omega | (simp [st2]; done) | (simp [st2]; omega)) (by first | omega | (simp [st2]; done) | (simp [st2]; omega)) dX8_isJoined_38 ?_
          refine g_icmp_eq (t := 44) dX8_isJoined_39 (by decide) (by first | omega | (simp [st2]; done) | (simp [st2]; omega)) (by first | omega | (simp [st2]; done) | (simp [st2]; omega)) (fun b39 => ?_) (fun b39 => ?_)
          · have hyes : 2 ≤ pR v (itP (pT v) i k) := hJ.mpr ⟨hp1, by omega⟩
            refine g_aload_n rfl dX8_isJoined_44 ?_
            refine gf_X8_59 (c2 := 61) rfl rfl (by first | rfl | assumption) dX8_isJoined_45 ?_
            refine g_iload_n rfl dX8_isJoined_48 ?_
            refine g_iald (n := 2000) (itP (pT v) i k) (by first | rfl | assumption) (by first | rfl | assumption) (by omega) (by first | omega | (simp [st2]; done) | (simp [st2]; omega)) (by first | omega | (simp [st2]; done) | (simp [st2]; omega)) dX8_isJoined_49 ?_
            rw [e61]
            refine g_istore_n (by decide) dX8_isJoined_50 ?_
            refine g_goto (t := 5) dX8_isJoined_51 (by decide) ?_
            refine g_subl [(0, vR 44), (1, vI (k : Int)), (2, vI (pN v : Int)), (3, vI (itP (pT v) (i + 1) k : Int)), (4, vI 0)] rfl ?_
            refine ih (i + 1) (by omega) (by omega) 0 (Or.inr ⟨rfl, by omega⟩) (fun q hq => ?_)
            rcases Nat.lt_or_ge q i with z | z
            · exact hall q z
            · rw [show q = i by omega]
              exact hyes
          · have hno : ¬ 2 ≤ pR v (itP (pT v) i k) := fun z => by
              have := (hJ.mp z).2
              omega
            refine g_iconst dX8_isJoined_42 ?_
            refine g_zreturn rfl (by omega) dX8_isJoined_43 ?_
            exact h0 (by omega)
  refine g_iload_n rfl dX8_isJoined_0 ?_
  refine g_istore_n (by decide) dX8_isJoined_1 ?_
  refine g_iconst dX8_isJoined_2 ?_
  refine g_istore (by decide) dX8_isJoined_3 ?_
  refine g_subl [(0, vR 44), (1, vI (k : Int)), (2, vI (pN v : Int)), (3, vI (itP (pT v) 0 k : Int)), (4, vI 1)] rfl ?_
  exact loop 0 (by omega) 1 (Or.inl ⟨rfl, rfl⟩) (fun q hq => by omega)
