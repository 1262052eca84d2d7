/-! the class's rounds: cells 35 (to) and 36 (room) -/
def ToC (X : Mm) (v : Mv) : Prop := ∀ p, p < pN v → X 35 p = (pT v p : Int)
def RmC (X : Mm) (v : Mv) (Q : Nat → Prop) : Prop := ∀ p, p < pN v → (Q p → X 36 p = 0) ∧ (¬ Q p → X 36 p = (pR v p : Int))
set_option maxRecDepth 100000 in
set_option maxHeartbeats 4000000 in
theorem ct_X1_drawPieces {l : Launch} {g : Geo} {X : Mm} {K : AV → Mm → Prop} {v : Mv} (hW : WayC X 17 v (va v) (vu v)) (hv : Vd v) (hr : vr v = 0) (hN : pN v ≤ 2000) (hk : ∀ X2, (∀ d j, d ≠ 35 → d ≠ 36 → X2 d j = X d j) → ToC X2 v → RmC X2 v (fun _ => False) → K (vI 0) X2) : Ct l g mX1_drawPieces [vR 31, vR 17] X K := by
  refine enter (by decide) (Nat.le_of_ble_eq_true rfl) (fun κ => ?_)
  have hn8 := hv.2.1
  have hNc := pN_c hv hr
  have hmono : ∀ {i j : Nat}, i ≤ j → j ≤ vn v → ps (vA v) (va v) i + (j - i : Int) ≤ ps (vA v) (va v) j := fun h1 h2 => pA_mono hv hr hv.2.2.2.2.1 h1 h2
  have e0 : ps (vA v) (va v) 0 = 0 := rfl
  have loop : ∀ j, j ≤ vn v → ∀ X2, (∀ d q, d ≠ 35 → d ≠ 36 → X2 d q = X d q) → (∀ p : Nat, (p : Int) < ps (vA v) (va v) j → X2 35 p = (pT v p : Int) ∧ X2 36 p = (pR v p : Int)) → G l g mX1_drawPieces κ K 2 [(0, vR 31), (1, vR 17), (2, vI (j : Int))] [] X2 := by
    refine upTo (vn v) ?_
    intro j hj ih X2 hfr hrow
    have w0 : X2 17 0 = (vn v : Int) := (hfr 17 0 (by decide) (by decide)).trans hW.1
    have inner : j < vn v → ∀ d : Nat, d ≤ (ps (vA v) (va v) (j + 1) - ps (vA v) (va v) j).toNat → ∀ X3, (∀ d q, d ≠ 35 → d ≠ 36 → X3 d q = X d q) → (∀ p : Nat, (p : Int) < ps (vA v) (va v) j + (d : Int) → X3 35 p = (pT v p : Int) ∧ X3 36 p = (pR v p : Int)) → G l g mX1_drawPieces κ K 43 [(0, vR 31), (1, vR 17), (2, vI (j : Int)), (3, vI (ps (vA v) (va v) (j + 1))), (4, vI (ps (vA v) (vu v) (posI (vu v) (va v j) (vn v)) - ps (vA v) (va v) j)), (5, vI (ps (vA v) (va v) j + (d : Int)))] [] X3 := by
      intro hjn
      have m1 := hmono (i := 0) (j := j) (by omega) (by omega)
      have m2 := hmono (i := j + 1) (j := vn v) (by omega) (by omega)
      have m3 := hmono (i := j) (j := j + 1) (by omega) (by omega)
      refine upTo _ ?_
      intro d hd ih2 X3 hfr3 hrow3
      refine g_iload rfl dX1_drawPieces_43 ?_
      refine g_iload_n rfl dX1_drawPieces_45 ?_
      refine g_icmp_ge (t := 78) dX1_drawPieces_46 (by decide) (by first | omega | (simp [st2]; done) | (simp [st2]; omega)) (by first | omega | (simp [st2]; done) | (simp [st2]; omega)) (fun b46 => ?_) (fun b46 => ?_)
      · refine g_iinc rfl (by decide) dX1_drawPieces_78 ?_
        refine g_goto (t := 2) dX1_drawPieces_81 (by decide) ?_
        refine g_subl [(0, vR 31), (1, vR 17), (2, vI ((j + 1 : Nat) : Int))] rfl ?_
        exact ih (j + 1) (by omega) (by omega) X3 hfr3 (fun p hp => hrow3 p (by omega))
      · obtain ⟨p, hp⟩ : ∃ p : Nat, (p : Int) = ps (vA v) (va v) j + (d : Int) := ⟨(ps (vA v) (va v) j + (d : Int)).toNat, by omega⟩
        have hpN : p < pN v := by omega
        have hS : pS v p = j := pS_eq hv hr hjn (by omega) (by omega)
        have hT := pT_x hv hr hpN
        have hR := pR_c hv hr hpN
        rw [hS] at hT hR
        refine g_aload_n rfl dX1_drawPieces_49 ?_
        refine gf_X1_21 (c2 := 35) rfl rfl (by first | rfl | assumption) dX1_drawPieces_50 ?_
        refine g_iload rfl dX1_drawPieces_53 ?_
        refine g_iload rfl dX1_drawPieces_55 ?_
        refine g_iload rfl dX1_drawPieces_57 ?_
        refine g_iadd dX1_drawPieces_59 ?_
        refine g_iast (n := 2000) (p) (by first | rfl | assumption) (by first | rfl | assumption) (by omega) (by first | omega | (simp [st2]; done) | (simp [st2]; omega)) (by first | omega | (simp [st2]; done) | (simp [st2]; omega)) dX1_drawPieces_60 ?_
        refine g_aload_n rfl dX1_drawPieces_61 ?_
        refine gf_X1_24 (c2 := 36) rfl rfl (by first | rfl | assumption) dX1_drawPieces_62 ?_
        refine g_iload rfl dX1_drawPieces_65 ?_
        refine g_iload_n rfl dX1_drawPieces_67 ?_
        refine g_iload rfl dX1_drawPieces_68 ?_
        refine g_isub dX1_drawPieces_70 ?_
        refine g_iast (n := 2000) (p) (by first | rfl | assumption) (by first | rfl | assumption) (by omega) (by first | omega | (simp [st2]; done) | (simp [st2]; omega)) (by first | omega | (simp [st2]; done) | (simp [st2]; omega)) dX1_drawPieces_71 ?_
        refine g_iinc rfl (by decide) dX1_drawPieces_72 ?_
        refine g_goto (t := 43) dX1_drawPieces_75 (by decide) ?_
        refine g_subl [(0, vR 31), (1, vR 17), (2, vI (j : Int)), (3, vI (ps (vA v) (va v) (j + 1))), (4, vI (ps (vA v) (vu v) (posI (vu v) (va v j) (vn v)) - ps (vA v) (va v) j)), (5, vI (ps (vA v) (va v) j + ((d + 1 : Nat) : Int)))] ?_ ?_
        · rw [show ps (vA v) (va v) j + ((d + 1 : Nat) : Int) = ps (vA v) (va v) j + (d : Int) + 1 by omega]
          rfl
        · refine ih2 (d + 1) (by omega) (by omega) _ (fun c q h1 h2 => by simp only [st2, if_neg h1, if_neg h2]; exact hfr3 c q h1 h2) (fun q hq => ?_)
          by_cases z : q = p
          · subst z
            simp only [st2, if_true]
            omega
          · have h5 := hrow3 q (by omega)
            simp [st2, z]
            exact h5
    refine g_iload_n rfl dX1_drawPieces_2 ?_
    refine g_aload_n rfl dX1_drawPieces_3 ?_
    refine gf_X1_42 rfl (by first | rfl | assumption) dX1_drawPieces_4 ?_
    refine g_icmp_ge (t := 84) dX1_drawPieces_7 (by decide) (by first | omega | (simp [st2]; done) | (simp [st2]; omega)) (by first | omega | (simp [st2]; done) | (simp [st2]; omega)) (fun b7 => ?_) (fun b7 => ?_)
    · refine g_return rfl dX1_drawPieces_84 ?_
      obtain rfl : j = vn v := by omega
      exact hk X2 hfr (fun p hp => (hrow p (by omega)).1) (fun p hp => ⟨fun z => absurd z id, fun _ => (hrow p (by omega)).2⟩)
    · have w3 : X2 19 (j + 1) = ps (vA v) (va v) (j + 1) := (hfr 19 _ (by decide) (by decide)).trans (hW.2.2.2 (j + 1) (by omega)).1
      have w4 : X2 19 j = ps (vA v) (va v) j := (hfr 19 _ (by decide) (by decide)).trans (hW.2.2.2 j (by omega)).1
      have w5 : X2 18 j = (va v j : Int) := (hfr 18 _ (by decide) (by decide)).trans (hW.2.2.1 j (by omega)).1
      have w6 : X2 21 (va v j) = ps (vA v) (vu v) (posI (vu v) (va v j) (vn v)) - ps (vA v) (va v) j := (hfr 21 _ (by decide) (by decide)).trans (hW.2.2.1 j (by omega)).2.1
      have haj := hv.2.2.2.2.1.1 j (by omega)
      refine g_aload_n rfl dX1_drawPieces_10 ?_
      refine gf_X1_45 (c2 := 19) rfl rfl (by first | rfl | assumption) dX1_drawPieces_11 ?_
      refine g_iload_n rfl dX1_drawPieces_14 ?_
      refine g_iconst dX1_drawPieces_15 ?_
      refine g_iadd dX1_drawPieces_16 ?_
      refine g_lald (n := 9) (j + 1) (by first | rfl | assumption) (by first | rfl | assumption) (by omega) (by first | omega | (simp [st2]; done) | (simp [st2]; omega)) (by first | omega | (simp [st2]; done) | (simp [st2]; omega)) dX1_drawPieces_17 ?_
      rw [w3]
      refine g_l2i dX1_drawPieces_18 ?_
      refine g_istore_n (by decide) dX1_drawPieces_19 ?_
      refine g_aload_n rfl dX1_drawPieces_20 ?_
      refine gf_X1_49 (c2 := 21) rfl rfl (by first | rfl | assumption) dX1_drawPieces_21 ?_
      refine g_aload_n rfl dX1_drawPieces_24 ?_
      refine gf_X1_52 (c2 := 18) rfl rfl (by first | rfl | assumption) dX1_drawPieces_25 ?_
      refine g_iload_n rfl dX1_drawPieces_28 ?_
      refine g_iald (n := 8) (_) (by first | rfl | assumption) (by first | rfl | assumption) rfl (by first | omega | (simp [st2]; done) | (simp [st2]; omega)) (by first | omega | (simp [st2]; done) | (simp [st2]; omega)) dX1_drawPieces_29 ?_
      rw [w5]
      refine g_lald (n := 8) (va v j) (by first | rfl | assumption) (by first | rfl | assumption) (by omega) (by first | omega | (simp [st2]; done) | (simp [st2]; omega)) (by first | omega | (simp [st2]; done) | (simp [st2]; omega)) dX1_drawPieces_30 ?_
      rw [w6]
      refine g_l2i dX1_drawPieces_31 ?_
      refine g_istore (by decide) dX1_drawPieces_32 ?_
      refine g_aload_n rfl dX1_drawPieces_34 ?_
      refine gf_X1_45 (c2 := 19) rfl rfl (by first | rfl | assumption) dX1_drawPieces_35 ?_
      refine g_iload_n rfl dX1_drawPieces_38 ?_
      refine g_lald (n := 9) (_) (by first | rfl | assumption) (by first | rfl | assumption) rfl (by first | omega | (simp [st2]; done) | (simp [st2]; omega)) (by first | omega | (simp [st2]; done) | (simp [st2]; omega)) dX1_drawPieces_39 ?_
      rw [w4]
      refine g_l2i dX1_drawPieces_40 ?_
      refine g_istore (by decide) dX1_drawPieces_41 ?_
      refine g_subl [(0, vR 31), (1, vR 17), (2, vI (j : Int)), (3, vI (ps (vA v) (va v) (j + 1))), (4, vI (ps (vA v) (vu v) (posI (vu v) (va v j) (vn v)) - ps (vA v) (va v) j)), (5, vI (ps (vA v) (va v) j + ((0 : Nat) : Int)))] ?_ ?_
      · rw [show ps (vA v) (va v) j + ((0 : Nat) : Int) = ps (vA v) (va v) j by omega]
        rfl
      · exact inner (by omega) 0 (by omega) X2 hfr (fun p hp => hrow p (by omega))
  refine g_iconst dX1_drawPieces_0 ?_
  refine g_istore_n (by decide) dX1_drawPieces_1 ?_
  refine g_subl [(0, vR 31), (1, vR 17), (2, vI ((0 : Nat) : Int))] rfl ?_
  exact loop 0 (by omega) X (fun _ _ _ _ => rfl) (fun p hp => by omega)
set_option maxRecDepth 100000 in
set_option maxHeartbeats 4000000 in
theorem ct_X1_measure {l : Launch} {g : Geo} {X : Mm} {K : AV → Mm → Prop} {v : Mv} {k c : Nat} (hv : Vd v) (hr : vr v = 0) (hN : pN v ≤ 2000) (hT : ToC X v) (hR : RmC X v (SnP (pN v) (pT v) (pR v) k)) (hkN : k < pN v) (hu : ¬ SnP (pN v) (pT v) (pR v) k k) (hc : X 31 0 = (c : Int)) (hc8 : c < 8) (hk : K (vI 0) (st2 (st2 (st2 X 32 c (mnP (pN v) (pT v) (pR v) k : Int)) 33 c (perP (pN v) (pT v) k : Int)) 34 c (k : Int))) : Ct l g mX1_measure [vR 31, vI (k : Int), vI (pN v : Int)] X K := by
  refine enter (by decide) (Nat.le_of_ble_eq_true rfl) (fun κ => ?_)
  have hP := pcs_ok hv hr
  obtain ⟨q1, q2, q3, q4⟩ := perP_spec hP hkN
  have loop : ∀ t, t ≤ perP (pN v) (pT v) k - 1 → G l g mX1_measure κ K 8 [(0, vR 31), (1, vI (k : Int)), (2, vI (pN v : Int)), (3, vI (mnI (pN v) (pT v) (pR v) k t : Int)), (4, vI (t : Int)), (5, vI (itP (pT v) t k : Int))] [] X := by
    refine upTo _ ?_
    intro t ht ih
    have hlt := itP_lt hP hkN t
    have hlt2 := itP_lt hP hkN (t + 1)
    have e36 : X 36 (itP (pT v) t k) = (pR v (itP (pT v) t k) : Int) := (hR _ hlt).2 (un_orbit hP hkN hu t)
    have e35 : X 35 (itP (pT v) t k) = (itP (pT v) (t + 1) k : Int) := hT _ hlt
    have hmI := (mnI_spec (pN v) (pT v) (pR v) k t).1
    have hrl := hP.2.2.1 _ hlt
    have hms : mnI (pN v) (pT v) (pR v) k (t + 1) = if pR v (itP (pT v) t k) < mnI (pN v) (pT v) (pR v) k t then pR v (itP (pT v) t k) else mnI (pN v) (pT v) (pR v) k t := rfl
    have hmi : (if (pR v (itP (pT v) t k) : Int) < (mnI (pN v) (pT v) (pR v) k t : Int) then (pR v (itP (pT v) t k) : Int) else (mnI (pN v) (pT v) (pR v) k t : Int)) = (mnI (pN v) (pT v) (pR v) k (t + 1) : Int) := by
      rw [hms]
      split <;> split <;> omega
    have h34 : ∀ w1 w2 : Int, (st2 (st2 X 32 c w1) 33 c w2) 31 0 = (c : Int) := fun _ _ => hc
    refine g_iload_n rfl dX1_measure_8 ?_
    refine g_aload_n rfl dX1_measure_9 ?_
    refine gf_X1_24 (c2 := 36) rfl rfl (by first | rfl | assumption) dX1_measure_10 ?_
    refine g_iload rfl dX1_measure_13 ?_
    refine g_iald (n := 2000) (itP (pT v) t k) (by first | rfl | assumption) (by first | rfl | assumption) (by omega) (by first | omega | (simp [st2]; done) | (simp [st2]; omega)) (by first | omega | (simp [st2]; done) | (simp [st2]; omega)) dX1_measure_15 ?_
    rw [e36]
    refine g_min ml_RX1_55 (by decide) (Nat.le_of_ble_eq_true rfl) (by first | omega | (simp [st2]; done) | (simp [st2]; omega)) (by first | omega | (simp [st2]; done) | (simp [st2]; omega)) dX1_measure_16 ?_
    rw [hmi]
    refine g_istore_n (by decide) dX1_measure_19 ?_
    refine g_aload_n rfl dX1_measure_20 ?_
    refine gf_X1_21 (c2 := 35) rfl rfl (by first | rfl | assumption) dX1_measure_21 ?_
    refine g_iload rfl dX1_measure_24 ?_
    refine g_iald (n := 2000) (itP (pT v) t k) (by first | rfl | assumption) (by first | rfl | assumption) (by omega) (by first | omega | (simp [st2]; done) | (simp [st2]; omega)) (by first | omega | (simp [st2]; done) | (simp [st2]; omega)) dX1_measure_26 ?_
    rw [e35]
    refine g_istore (by decide) dX1_measure_27 ?_
    refine g_iinc rfl (by decide) dX1_measure_29 ?_
    refine g_iload rfl dX1_measure_32 ?_
    refine g_iload_n rfl dX1_measure_34 ?_
    refine g_icmp_eq (t := 44) dX1_measure_35 (by decide) (by first | omega | (simp [st2]; done) | (simp [st2]; omega)) (by first | omega | (simp [st2]; done) | (simp [st2]; omega)) (fun b35 => ?_) (fun b35 => ?_)
    · have hper : t + 1 = perP (pN v) (pT v) k := by
        rcases Nat.lt_or_ge (t + 1) (perP (pN v) (pT v) k) with z | z
        · exact absurd (by omega) (q4 (t + 1) (by omega) z)
        · omega
      refine g_aload_n rfl dX1_measure_44 ?_
      refine gf_X1_9 (c2 := 32) rfl rfl (by first | rfl | assumption) dX1_measure_45 ?_
      refine g_aload_n rfl dX1_measure_48 ?_
      refine gf_X1_31 rfl (by first | rfl | assumption) dX1_measure_49 ?_
      refine g_iload_n rfl dX1_measure_52 ?_
      refine g_iast (n := 8) (c) (by first | rfl | assumption) (by first | rfl | assumption) (by omega) (by first | omega | (simp [st2]; done) | (simp [st2]; omega)) (by first | omega | (simp [st2]; done) | (simp [st2]; omega)) dX1_measure_53 ?_
      refine g_aload_n rfl dX1_measure_54 ?_
      refine gf_X1_15 (c2 := 33) rfl rfl (by first | rfl | assumption) dX1_measure_55 ?_
      refine g_aload_n rfl dX1_measure_58 ?_
      refine gf_X1_31 rfl (by first | rfl | assumption) dX1_measure_59 ?_
      refine g_iload rfl dX1_measure_62 ?_
      refine g_iast (n := 8) (c) (by first | rfl | assumption) (by first | rfl | assumption) hc (by first | omega | (simp [st2]; done) | (simp [st2]; omega)) (by first | omega | (simp [st2]; done) | (simp [st2]; omega)) dX1_measure_64 ?_
      refine g_aload_n rfl dX1_measure_65 ?_
      refine gf_X1_18 (c2 := 34) rfl rfl (by first | rfl | assumption) dX1_measure_66 ?_
      refine g_aload_n rfl dX1_measure_69 ?_
      refine gf_X1_31 rfl (by first | rfl | assumption) dX1_measure_70 ?_
      refine g_iload_n rfl dX1_measure_73 ?_
      refine g_iast (n := 8) (c) (by first | rfl | assumption) (by first | rfl | assumption) hc (by first | omega | (simp [st2]; done) | (simp [st2]; omega)) (by first | omega | (simp [st2]; done) | (simp [st2]; omega)) dX1_measure_74 ?_
      refine g_return rfl dX1_measure_75 ?_
      rw [← hper] at hk
      have hmn : mnP (pN v) (pT v) (pR v) k = mnI (pN v) (pT v) (pR v) k (t + 1) := by
        unfold mnP
        rw [← hper]
      rw [hmn] at hk
      exact hk
    · have hnp : t + 1 ≠ perP (pN v) (pT v) k := fun z => by
        rw [z, q3] at b35
        exact b35 rfl
      refine g_iload rfl dX1_measure_38 ?_
      refine g_iload_n rfl dX1_measure_40 ?_
      refine g_icmp_lt (t := 8) dX1_measure_41 (by decide) (by first | omega | (simp [st2]; done) | (simp [st2]; omega)) (by first | omega | (simp [st2]; done) | (simp [st2]; omega)) (fun b41 => ?_) (fun b41 => ?_)
      · refine g_subl [(0, vR 31), (1, vI (k : Int)), (2, vI (pN v : Int)), (3, vI (mnI (pN v) (pT v) (pR v) k (t + 1) : Int)), (4, vI ((t + 1 : Nat) : Int)), (5, vI (itP (pT v) (t + 1) k : Int))] rfl ?_
        exact ih (t + 1) (by omega) (by omega)
      · exfalso; omega
  refine g_iload_n rfl dX1_measure_0 ?_
  refine g_istore_n (by decide) dX1_measure_1 ?_
  refine g_iconst dX1_measure_2 ?_
  refine g_istore (by decide) dX1_measure_3 ?_
  refine g_iload_n rfl dX1_measure_5 ?_
  refine g_istore (by decide) dX1_measure_6 ?_
  refine g_subl [(0, vR 31), (1, vI (k : Int)), (2, vI (pN v : Int)), (3, vI (mnI (pN v) (pT v) (pR v) k 0 : Int)), (4, vI ((0 : Nat) : Int)), (5, vI (itP (pT v) 0 k : Int))] rfl ?_
  exact loop 0 (by omega)
set_option maxRecDepth 100000 in
set_option maxHeartbeats 4000000 in
theorem ct_X1_takeOut {l : Launch} {g : Geo} {X : Mm} {K : AV → Mm → Prop} {v : Mv} {k c : Nat} (hv : Vd v) (hr : vr v = 0) (hN : pN v ≤ 2000) (hT : ToC X v) (hR : RmC X v (SnP (pN v) (pT v) (pR v) k)) (hkN : k < pN v) (hc : X 31 0 = (c : Int)) (hc8 : c < 8) (e32 : X 32 c = (mnP (pN v) (pT v) (pR v) k : Int)) (e33 : X 33 c = (perP (pN v) (pT v) k : Int)) (e34 : X 34 c = (k : Int)) (hk : ∀ X2, (∀ d j, d ≠ 36 → X2 d j = X d j) → RmC X2 v (SnP (pN v) (pT v) (pR v) (k + 1)) → K (vI 0) X2) : Ct l g mX1_takeOut [vR 31] X K := by
  refine enter (by decide) (Nat.le_of_ble_eq_true rfl) (fun κ => ?_)
  have hP := pcs_ok hv hr
  obtain ⟨q1, q2, q3, q4⟩ := perP_spec hP hkN
  obtain ⟨m1, m2, m3, m4⟩ := mn_spec hP hkN
  have loop : ∀ i, i ≤ perP (pN v) (pT v) k → ∀ X2, (∀ d j, d ≠ 36 → X2 d j = X d j) → RmC X2 v (fun p => SnP (pN v) (pT v) (pR v) k p ∨ ∃ a s, a < i ∧ s < mnP (pN v) (pT v) (pR v) k ∧ p = itP (pT v) a k + s) → G l g mX1_takeOut κ K 12 [(0, vR 31), (1, vI (itP (pT v) i k : Int)), (2, vI (i : Int))] [] X2 := by
    refine upTo _ ?_
    intro i hi ih X2 hfr hR2
    have z0 : X2 31 0 = (c : Int) := (hfr 31 0 (by decide)).trans hc
    have z3 : X2 33 c = (perP (pN v) (pT v) k : Int) := (hfr 33 c (by decide)).trans e33
    have hlt := itP_lt hP hkN i
    have hmi := m1 i
    have hrl := hP.2.2.1 _ hlt
    have inner : i < perP (pN v) (pT v) k → ∀ s, s ≤ mnP (pN v) (pT v) (pR v) k → ∀ X3, (∀ d j, d ≠ 36 → X3 d j = X d j) → RmC X3 v (fun p => SnP (pN v) (pT v) (pR v) k p ∨ (∃ a s, a < i ∧ s < mnP (pN v) (pT v) (pR v) k ∧ p = itP (pT v) a k + s) ∨ ∃ r, r < s ∧ p = itP (pT v) i k + r) → G l g mX1_takeOut κ K 27 [(0, vR 31), (1, vI (itP (pT v) i k : Int)), (2, vI (i : Int)), (3, vI (s : Int))] [] X3 := by
      intro hin
      refine upTo _ ?_
      intro s hs ih2 X3 hfr3 hR3
      have z03 : X3 31 0 = (c : Int) := (hfr3 31 0 (by decide)).trans hc
      have z2 : X3 32 c = (mnP (pN v) (pT v) (pR v) k : Int) := (hfr3 32 c (by decide)).trans e32
      have e35 : X3 35 (itP (pT v) i k) = (itP (pT v) (i + 1) k : Int) := (hfr3 35 _ (by decide)).trans (hT _ hlt)
      refine g_iload_n rfl dX1_takeOut_27 ?_
      refine g_aload_n rfl dX1_takeOut_28 ?_
      refine gf_X1_9 (c2 := 32) rfl rfl (by first | rfl | assumption) dX1_takeOut_29 ?_
      refine g_aload_n rfl dX1_takeOut_32 ?_
      refine gf_X1_31 rfl (by first | rfl | assumption) dX1_takeOut_33 ?_
      refine g_iald (n := 8) (c) (by first | rfl | assumption) (by first | rfl | assumption) (by omega) (by first | omega | (simp [st2]; done) | (simp [st2]; omega)) (by first | omega | (simp [st2]; done) | (simp [st2]; omega)) dX1_takeOut_36 ?_
      refine g_icmp_ge (t := 55) dX1_takeOut_37 (by decide) (by first | omega | (simp [st2]; done) | (simp [st2]; omega)) (by first | omega | (simp [st2]; done) | (simp [st2]; omega)) (fun b37 => ?_) (fun b37 => ?_)
      · refine g_aload_n rfl dX1_takeOut_55 ?_
        refine gf_X1_21 (c2 := 35) rfl rfl (by first | rfl | assumption) dX1_takeOut_56 ?_
        refine g_iload_n rfl dX1_takeOut_59 ?_
        refine g_iald (n := 2000) (itP (pT v) i k) (by first | rfl | assumption) (by first | rfl | assumption) (by omega) (by first | omega | (simp [st2]; done) | (simp [st2]; omega)) (by first | omega | (simp [st2]; done) | (simp [st2]; omega)) dX1_takeOut_60 ?_
        rw [e35]
        refine g_istore_n (by decide) dX1_takeOut_61 ?_
        refine g_iinc rfl (by decide) dX1_takeOut_62 ?_
        refine g_goto (t := 12) dX1_takeOut_65 (by decide) ?_
        refine g_subl [(0, vR 31), (1, vI (itP (pT v) (i + 1) k : Int)), (2, vI ((i + 1 : Nat) : Int))] rfl ?_
        refine ih (i + 1) (by omega) (by omega) X3 hfr3 (fun p hp => ?_)
        have h5 := hR3 p hp
        refine ⟨fun w => h5.1 ?_, fun w => h5.2 (fun y => w ?_)⟩
        · rcases w with w | ⟨a, r, ha, hr2, w⟩
          · exact Or.inl w
          · rcases Nat.lt_or_ge a i with y | y
            · exact Or.inr (Or.inl ⟨a, r, y, hr2, w⟩)
            · exact Or.inr (Or.inr ⟨r, by omega, by rw [w, show a = i by omega]⟩)
        · rcases y with y | ⟨a, r, ha, hr2, y⟩ | ⟨r, hr2, y⟩
          · exact Or.inl y
          · exact Or.inr ⟨a, r, by omega, hr2, y⟩
          · exact Or.inr ⟨i, r, by omega, by omega, y⟩
      · refine g_aload_n rfl dX1_takeOut_40 ?_
        refine gf_X1_24 (c2 := 36) rfl rfl (by first | rfl | assumption) dX1_takeOut_41 ?_
        refine g_iload_n rfl dX1_takeOut_44 ?_
        refine g_iload_n rfl dX1_takeOut_45 ?_
        refine g_iadd dX1_takeOut_46 ?_
        refine g_iconst dX1_takeOut_47 ?_
        refine g_iast (n := 2000) (itP (pT v) i k + s) (by first | rfl | assumption) (by first | rfl | assumption) (by omega) (by first | omega | (simp [st2]; done) | (simp [st2]; omega)) (by first | omega | (simp [st2]; done) | (simp [st2]; omega)) dX1_takeOut_48 ?_
        refine g_iinc rfl (by decide) dX1_takeOut_49 ?_
        refine g_goto (t := 27) dX1_takeOut_52 (by decide) ?_
        refine g_subl [(0, vR 31), (1, vI (itP (pT v) i k : Int)), (2, vI (i : Int)), (3, vI ((s + 1 : Nat) : Int))] rfl ?_
        refine ih2 (s + 1) (by omega) (by omega) _ (fun d j hd => by simp only [st2, if_neg hd]; exact hfr3 d j hd) (fun p hp => ?_)
        by_cases z : p = itP (pT v) i k + s
        · refine ⟨fun _ => by simp [st2, z], fun w => absurd (Or.inr (Or.inr ⟨s, by omega, z⟩)) w⟩
        · have h5 := hR3 p hp
          refine ⟨fun w => ?_, fun w => ?_⟩
          · simp only [st2, if_true, if_neg z]
            refine h5.1 ?_
            rcases w with w | w | ⟨r, hr2, w⟩
            · exact Or.inl w
            · exact Or.inr (Or.inl w)
            · refine Or.inr (Or.inr ⟨r, ?_, w⟩)
              rcases Nat.lt_or_ge r s with y | y
              · exact y
              · exact absurd (by rw [w, show r = s by omega]) z
          · simp only [st2, if_true, if_neg z]
            refine h5.2 (fun y => w ?_)
            rcases y with y | y | ⟨r, hr2, y⟩
            · exact Or.inl y
            · exact Or.inr (Or.inl y)
            · exact Or.inr (Or.inr ⟨r, by omega, y⟩)
    refine g_iload_n rfl dX1_takeOut_12 ?_
    refine g_aload_n rfl dX1_takeOut_13 ?_
    refine gf_X1_15 (c2 := 33) rfl rfl (by first | rfl | assumption) dX1_takeOut_14 ?_
    refine g_aload_n rfl dX1_takeOut_17 ?_
    refine gf_X1_31 rfl (by first | rfl | assumption) dX1_takeOut_18 ?_
    refine g_iald (n := 8) (c) (by first | rfl | assumption) (by first | rfl | assumption) (by omega) (by first | omega | (simp [st2]; done) | (simp [st2]; omega)) (by first | omega | (simp [st2]; done) | (simp [st2]; omega)) dX1_takeOut_21 ?_
    refine g_icmp_ge (t := 68) dX1_takeOut_22 (by decide) (by first | omega | (simp [st2]; done) | (simp [st2]; omega)) (by first | omega | (simp [st2]; done) | (simp [st2]; omega)) (fun b22 => ?_) (fun b22 => ?_)
    · refine g_return rfl dX1_takeOut_68 ?_
      refine hk X2 hfr (fun p hp => ?_)
      have h5 := hR2 p hp
      rw [sn_s]
      have hiff : FamP (pN v) (pT v) (pR v) k p ↔ ∃ a s, a < i ∧ s < mnP (pN v) (pT v) (pR v) k ∧ p = itP (pT v) a k + s := by
        constructor
        · rintro ⟨a, s, hs, e⟩
          obtain ⟨q, hq, e2⟩ := itP_mod hP hkN a
          exact ⟨q, s, by omega, hs, by rw [e2]; exact e⟩
        · rintro ⟨a, s, _, hs, e⟩
          exact ⟨a, s, hs, e⟩
      rw [hiff]
      exact h5
    · refine g_iconst dX1_takeOut_25 ?_
      refine g_istore_n (by decide) dX1_takeOut_26 ?_
      refine g_subl [(0, vR 31), (1, vI (itP (pT v) i k : Int)), (2, vI (i : Int)), (3, vI ((0 : Nat) : Int))] rfl ?_
      refine inner (by omega) 0 (by omega) X2 hfr (fun p hp => ?_)
      have h5 := hR2 p hp
      refine ⟨fun w => h5.1 ?_, fun w => h5.2 (fun y => w ?_)⟩
      · rcases w with w | w | ⟨r, hr2, w⟩
        · exact Or.inl w
        · exact Or.inr w
        · omega
      · rcases y with y | y
        · exact Or.inl y
        · exact Or.inr (Or.inl y)
  refine g_aload_n rfl dX1_takeOut_0 ?_
  refine gf_X1_18 (c2 := 34) rfl rfl (by first | rfl | assumption) dX1_takeOut_1 ?_
  refine g_aload_n rfl dX1_takeOut_4 ?_
  refine gf_X1_31 rfl (by first | rfl | assumption) dX1_takeOut_5 ?_
  refine g_iald (n := 8) (c) (by first | rfl | assumption) (by first | rfl | assumption) (by omega) (by first | omega | (simp [st2]; done) | (simp [st2]; omega)) (by first | omega | (simp [st2]; done) | (simp [st2]; omega)) dX1_takeOut_8 ?_
  rw [e34]
  refine g_istore_n (by decide) dX1_takeOut_9 ?_
  refine g_iconst dX1_takeOut_10 ?_
  refine g_istore_n (by decide) dX1_takeOut_11 ?_
  refine g_subl [(0, vR 31), (1, vI (itP (pT v) 0 k : Int)), (2, vI ((0 : Nat) : Int))] rfl ?_
  refine loop 0 (by omega) X (fun _ _ _ => rfl) (fun p hp => ?_)
  have h5 := hR p hp
  refine ⟨fun w => h5.1 ?_, fun w => h5.2 (fun y => w (Or.inl y))⟩
  rcases w with w | ⟨a, r, ha, _⟩
  · exact w
  · omega
