set_option maxRecDepth 100000 in
set_option maxHeartbeats 4000000 in
theorem ct_X6_isLeftEnd {l : Launch} {g : Geo} {X : Mm} {K : AV → Mm → Prop} {v : Mv} {a b : Int} (hW : WayC X 17 v (va v) (vu v)) (hv : Vd v) (ha : X 30 1 = a) (hb : X 30 2 = b) (hp : pB a b) (h1 : lEb v (a, b) = true → K (vI 1) X) (h0 : ¬ lEb v (a, b) = true → K (vI 0) X) : Ct l g mX6_isLeftEnd [vR 17, vR 30] X K := by
  refine enter (by decide) (Nat.le_of_ble_eq_true rfl) (fun κ => ?_)
  have hn8 := hv.2.1
  have w0 : X 17 0 = (vn v : Int) := hW.1
  unfold pB at hp
  rw [lEb_iff] at h0 h1
  have loop : ∀ j, j ≤ vn v → (∀ q, q < j → eP v q ≠ (a, b)) → G l g mX6_isLeftEnd κ K 2 [(0, vR 17), (1, vR 30), (2, vI (j : Int))] [] X := by
    refine upTo (vn v) ?_
    intro j hj ih hno
    refine g_iload_n rfl dX6_isLeftEnd_2 ?_
    refine g_aload_n rfl dX6_isLeftEnd_3 ?_
    refine gf_X6_34 rfl (by first | rfl | assumption) dX6_isLeftEnd_4 ?_
    refine g_icmp_ge (t := 46) dX6_isLeftEnd_7 (by decide) (by first | omega | (simp [st2]; done) | (simp [st2]; omega)) (by first | omega | (simp [st2]; done) | (simp [st2]; omega)) (fun b7 => ?_) (fun b7 => ?_)
    · refine g_iconst dX6_isLeftEnd_46 ?_
      refine g_zreturn rfl (by omega) dX6_isLeftEnd_47 ?_
      exact h0 (fun ⟨q, hq, e⟩ => hno q (by omega) e)
    · have w2 : X 19 j = ps (vA v) (va v) j := (hW.2.2.2 j (by omega)).1
      have w3 : X 20 j = ps (vB v) (va v) j := (hW.2.2.2 j (by omega)).2
      have hbd := hv.psA hv.2.2.2.2.1 (j := j) (by omega)
      refine g_aload_n rfl dX6_isLeftEnd_10 ?_
      refine gf_X6_15 (c2 := 19) rfl rfl (by first | rfl | assumption) dX6_isLeftEnd_11 ?_
      refine g_iload_n rfl dX6_isLeftEnd_14 ?_
      refine g_lald (n := 9) (_) (by first | rfl | assumption) (by first | rfl | assumption) rfl (by first | omega | (simp [st2]; done) | (simp [st2]; omega)) (by first | omega | (simp [st2]; done) | (simp [st2]; omega)) dX6_isLeftEnd_15 ?_
      refine g_aload_n rfl dX6_isLeftEnd_16 ?_
      refine gf_X6_53 rfl (by first | rfl | assumption) dX6_isLeftEnd_17 ?_
      refine g_lne (t := 40) dX6_isLeftEnd_20 dX6_isLeftEnd_21 (by decide) (by first | omega | (simp [st2]; done) | (simp [st2]; omega)) (by first | omega | (simp [st2]; done) | (simp [st2]; omega)) (fun b20 => ?_) (fun b20 => ?_)
      · have hne : eP v j ≠ (a, b) := fun e => b20 (by
          rw [w2, ha]
          exact congrArg Prod.fst e)
        refine g_iinc rfl (by decide) dX6_isLeftEnd_40 ?_
        refine g_goto (t := 2) dX6_isLeftEnd_43 (by decide) ?_
        refine g_subl [(0, vR 17), (1, vR 30), (2, vI ((j + 1 : Nat) : Int))] rfl ?_
        refine ih (j + 1) (by omega) (by omega) (fun q hq => ?_)
        rcases Nat.lt_or_ge q j with z | z
        · exact hno q z
        · obtain rfl : q = j := by omega
          exact hne
      · refine g_aload_n rfl dX6_isLeftEnd_24 ?_
        refine gf_X6_19 (c2 := 20) rfl rfl (by first | rfl | assumption) dX6_isLeftEnd_25 ?_
        refine g_iload_n rfl dX6_isLeftEnd_28 ?_
        refine g_lald (n := 9) (_) (by first | rfl | assumption) (by first | rfl | assumption) rfl (by first | omega | (simp [st2]; done) | (simp [st2]; omega)) (by first | omega | (simp [st2]; done) | (simp [st2]; omega)) dX6_isLeftEnd_29 ?_
        refine g_aload_n rfl dX6_isLeftEnd_30 ?_
        refine gf_X6_59 rfl (by first | rfl | assumption) dX6_isLeftEnd_31 ?_
        refine g_lne (t := 40) dX6_isLeftEnd_34 dX6_isLeftEnd_35 (by decide) (by first | omega | (simp [st2]; done) | (simp [st2]; omega)) (by first | omega | (simp [st2]; done) | (simp [st2]; omega)) (fun b34 => ?_) (fun b34 => ?_)
        · have hne : eP v j ≠ (a, b) := fun e => b34 (by
            rw [w3, hb]
            exact congrArg Prod.snd e)
          refine g_iinc rfl (by decide) dX6_isLeftEnd_40 ?_
          refine g_goto (t := 2) dX6_isLeftEnd_43 (by decide) ?_
          refine g_subl [(0, vR 17), (1, vR 30), (2, vI ((j + 1 : Nat) : Int))] rfl ?_
          refine ih (j + 1) (by omega) (by omega) (fun q hq => ?_)
          rcases Nat.lt_or_ge q j with z | z
          · exact hno q z
          · obtain rfl : q = j := by omega
            exact hne
        · refine g_iconst dX6_isLeftEnd_38 ?_
          refine g_zreturn rfl (by omega) dX6_isLeftEnd_39 ?_
          exact h1 ⟨j, by omega, Prod.ext (show ps (vA v) (va v) j = a by omega) (show ps (vB v) (va v) j = b by omega)⟩
  refine g_iconst dX6_isLeftEnd_0 ?_
  refine g_istore_n (by decide) dX6_isLeftEnd_1 ?_
  refine g_subl [(0, vR 17), (1, vR 30), (2, vI ((0 : Nat) : Int))] rfl ?_
  exact loop 0 (by omega) (fun q hq => by omega)
set_option maxRecDepth 100000 in
set_option maxHeartbeats 4000000 in
theorem ct_X7_beginningsBehind {l : Launch} {g : Geo} {X : Mm} {K : AV → Mm → Prop} {v : Mv} {j m : Nat} (hW : Wys X v) (hv : Vd v) (hj : j < vn v) (hm : 1 ≤ m ∧ m ≤ 10) (hk : ∀ X2, (∀ d k, d ≠ 30 → X2 d k = X d k) → K (vI (bbW v m j : Int)) X2) : Ct l g mX7_beginningsBehind [vR 0, vI (j : Int), vI (m : Int)] X K := by
  refine enter (by decide) (Nat.le_of_ble_eq_true rfl) (fun κ => ?_)
  have hn8 := hv.2.1
  have w2 : X 19 j = ps (vA v) (va v) j := (hW.1.2.2.2 j (by omega)).1
  have w3 : X 20 j = ps (vB v) (va v) j := (hW.1.2.2.2 j (by omega)).2
  have hf := hv.2.2.2.2.2.1
  have hh := hv.2.2.2.2.1
  have loop : ∀ s, s ≤ m → 1 ≤ s → ∀ X2, (∀ d k, d ≠ 30 → X2 d k = X d k) → X2 30 1 = (bkI v (s - 1) (eP v j)).1 → X2 30 2 = (bkI v (s - 1) (eP v j)).2 → bbW v m j = srch (fun s => lEb v (bkI v s (eP v j))) s m → G l g mX7_beginningsBehind κ K 27 [(0, vR 0), (1, vI (j : Int)), (2, vI (m : Int)), (3, vI (s : Int))] [] X2 := by
    refine upTo m ?_
    intro s hs ih hs1 X2 hfr ha hb hsr
    have hW2 : Wys X2 v := hW.fr (fun d k h1 h2 => hfr d k (by omega))
    have hok := bkI_ok hv hj (s := s - 1) (by omega)
    have hok2 := bkI_ok hv hj (s := s) (by omega)
    have es : bkI v s (eP v j) = bkP v (bkI v (s - 1) (eP v j)) := by
      rw [show s = (s - 1) + 1 by omega]
      rfl
    have eA : gA v (vu v) (va v) (bkI v (s - 1) (eP v j)).1 (bkI v (s - 1) (eP v j)).2 = (bkI v s (eP v j)).1 := by rw [es]; rfl
    have eB : gB v (vu v) (va v) (bkI v (s - 1) (eP v j)).1 (bkI v (s - 1) (eP v j)).2 = (bkI v s (eP v j)).2 := by rw [es]; rfl
    refine g_iload_n rfl dX7_beginningsBehind_27 ?_
    refine g_iload_n rfl dX7_beginningsBehind_28 ?_
    refine g_icmp_ge (t := 68) dX7_beginningsBehind_29 (by decide) (by first | omega | (simp [st2]; done) | (simp [st2]; omega)) (by first | omega | (simp [st2]; done) | (simp [st2]; omega)) (fun b29 => ?_) (fun b29 => ?_)
    · refine g_iload_n rfl dX7_beginningsBehind_68 ?_
      refine g_ireturn rfl dX7_beginningsBehind_69 ?_
      rw [srch_end (by omega)] at hsr
      exact kE (hk X2 hfr) (by omega)
    · refine g_aload_n rfl dX7_beginningsBehind_32 ?_
      refine gf_X7_37 (c2 := 23) rfl rfl (by first | rfl | assumption) dX7_beginningsBehind_33 ?_
      refine g_aload_n rfl dX7_beginningsBehind_36 ?_
      refine gf_X7_47 (c2 := 30) rfl rfl (by first | rfl | assumption) dX7_beginningsBehind_37 ?_
      refine g_cv1 (M2 := mX6_carry) (ci := 6) dX7_beginningsBehind_40 ml_RX7_157 kX6_carry (by decide) (by first | rfl | assumption) (by decide) rfl (by unfold Rm; decide) (Nat.le_of_ble_eq_true rfl) (ct_X6_carry_23 hW2.2 hv hf hh ha hb hok (fun q => ?_) (fun q => ?_))
      · have hW3 : WayC (st2 (st2 X2 30 1 (gA v (vu v) (va v) (bkI v (s - 1) (eP v j)).1 (bkI v (s - 1) (eP v j)).2)) 30 2 (gB v (vu v) (va v) (bkI v (s - 1) (eP v j)).1 (bkI v (s - 1) (eP v j)).2)) 17 v (va v) (vu v) := hW2.1.fr (fun d k h1 h2 => by
          have z : d ≠ 30 := by omega
          simp only [st2, if_neg z])
        refine g_if_eq (t := 60) dX7_beginningsBehind_43 (by decide) (by first | omega | (simp [st2]; done) | (simp [st2]; omega)) (fun b43 => ?_) (fun b43 => ?_)
        · exfalso; omega
        · refine g_aload_n rfl dX7_beginningsBehind_46 ?_
          refine gf_X7_33 (c2 := 17) rfl rfl (by first | rfl | assumption) dX7_beginningsBehind_47 ?_
          refine g_aload_n rfl dX7_beginningsBehind_50 ?_
          refine gf_X7_47 (c2 := 30) rfl rfl (by first | rfl | assumption) dX7_beginningsBehind_51 ?_
          refine g_cv1 (M2 := mX6_isLeftEnd) (ci := 6) dX7_beginningsBehind_54 ml_RX7_233 kX6_isLeftEnd (by decide) (by first | rfl | assumption) (by decide) rfl (by unfold Rm; decide) (Nat.le_of_ble_eq_true rfl) (ct_X6_isLeftEnd (a := (bkI v s (eP v j)).1) (b := (bkI v s (eP v j)).2) hW3 hv eA eB hok2.1 (fun w => ?_) (fun w => ?_))
          · refine g_if_eq (t := 62) dX7_beginningsBehind_57 (by decide) (by first | omega | (simp [st2]; done) | (simp [st2]; omega)) (fun b57 => ?_) (fun b57 => ?_)
            · exfalso; omega
            · refine g_iload_n rfl dX7_beginningsBehind_60 ?_
              refine g_ireturn rfl dX7_beginningsBehind_61 ?_
              rw [srch_hit (p := fun s => lEb v (bkI v s (eP v j))) (by omega) w] at hsr
              exact kE (hk _ (fun d k hd => by simp only [st2, if_neg hd]; exact hfr d k hd)) (by omega)
          · refine g_if_eq (t := 62) dX7_beginningsBehind_57 (by decide) (by first | omega | (simp [st2]; done) | (simp [st2]; omega)) (fun b57 => ?_) (fun b57 => ?_)
            · refine g_iinc rfl (by decide) dX7_beginningsBehind_62 ?_
              refine g_goto (t := 27) dX7_beginningsBehind_65 (by decide) ?_
              rw [srch_miss (p := fun s => lEb v (bkI v s (eP v j))) (by omega) w] at hsr
              refine g_subl [(0, vR 0), (1, vI (j : Int)), (2, vI (m : Int)), (3, vI ((s + 1 : Nat) : Int))] rfl ?_
              exact ih (s + 1) (by omega) (by omega) (by omega) _ (fun d k hd => by simp only [st2, if_neg hd]; exact hfr d k hd) eA eB hsr
            · exfalso; omega
      · rw [eA, eB] at q
        refine g_if_eq (t := 60) dX7_beginningsBehind_43 (by decide) (by first | omega | (simp [st2]; done) | (simp [st2]; omega)) (fun b43 => ?_) (fun b43 => ?_)
        · exact absurd hok2.1 q
        · exact absurd hok2.1 q
  refine g_aload_n rfl dX7_beginningsBehind_0 ?_
  refine gf_X7_47 (c2 := 30) rfl rfl (by first | rfl | assumption) dX7_beginningsBehind_1 ?_
  refine g_aload_n rfl dX7_beginningsBehind_4 ?_
  refine gf_X7_33 (c2 := 17) rfl rfl (by first | rfl | assumption) dX7_beginningsBehind_5 ?_
  refine gf_X7_122 (c2 := 19) rfl rfl (by first | rfl | assumption) dX7_beginningsBehind_8 ?_
  refine g_iload_n rfl dX7_beginningsBehind_11 ?_
  refine g_lald (n := 9) (_) (by first | rfl | assumption) (by first | rfl | assumption) rfl (by first | omega | (simp [st2]; done) | (simp [st2]; omega)) (by first | omega | (simp [st2]; done) | (simp [st2]; omega)) dX7_beginningsBehind_12 ?_
  refine g_aload_n rfl dX7_beginningsBehind_13 ?_
  refine gf_X7_33 (c2 := 17) rfl rfl (by first | rfl | assumption) dX7_beginningsBehind_14 ?_
  refine gf_X7_126 (c2 := 20) rfl rfl (by first | rfl | assumption) dX7_beginningsBehind_17 ?_
  refine g_iload_n rfl dX7_beginningsBehind_20 ?_
  refine g_lald (n := 9) (_) (by first | rfl | assumption) (by first | rfl | assumption) rfl (by first | omega | (simp [st2]; done) | (simp [st2]; omega)) (by first | omega | (simp [st2]; done) | (simp [st2]; omega)) dX7_beginningsBehind_21 ?_
  refine g_cv2v (M2 := mX5_put) (ci := 5) dX7_beginningsBehind_22 ml_RX7_142 kX5_put rfl (by first | rfl | assumption) (by decide) rfl (by unfold Rm; decide) (Nat.le_of_ble_eq_true rfl) (ct_X5_put rfl ?_)
  refine g_iconst dX7_beginningsBehind_25 ?_
  refine g_istore_n (by decide) dX7_beginningsBehind_26 ?_
  refine g_subl [(0, vR 0), (1, vI (j : Int)), (2, vI (m : Int)), (3, vI ((1 : Nat) : Int))] rfl ?_
  exact loop 1 (by omega) (by omega) _ (fun d k hd => by simp only [st2, if_neg hd]) w2 w3 rfl
set_option maxRecDepth 100000 in
theorem ct_X7_words {l : Launch} {g : Geo} {X : Mm} {K : AV → Mm → Prop} {v : Mv} {m : Int} (hm : -2147483648 ≤ m ∧ m < 2147483648) (hX : MvC X 5 v) (hW : vn v ≠ 0 → Wys X v) (hv : vn v ≠ 0 → Vd v) (h0 : vn v = 0 → K (vI (-1)) X) (h1 : vn v ≠ 0 → (m < 1 ∨ 10 < m) → K (vI (-2)) X) (h2 : vn v ≠ 0 → (1 ≤ m ∧ m ≤ 10) → ∀ X2, (∀ d k, d ≠ 30 → X2 d k = X d k) → K (vI (fb_sm (bbW v m.toNat) (vn v) : Int)) X2) : Ct l g mX7_words [vR 0, vI m] X K := by
  refine enter (by decide) (Nat.le_of_ble_eq_true rfl) (fun κ => ?_)
  have x1 : X 5 0 = (vn v : Int) := hX.1
  have hn8 : vn v ≤ 8 := by
    rcases Nat.eq_zero_or_pos (vn v) with z | z
    · omega
    · exact (hv (by omega)).2.1
  have loop : vn v ≠ 0 → (1 ≤ m ∧ m ≤ 10) → ∀ j, j ≤ vn v → ∀ X2, (∀ d k, d ≠ 30 → X2 d k = X d k) → G l g mX7_words κ K 30 [(0, vR 0), (1, vI m), (2, vI (fb_sm (bbW v m.toNat) j : Int)), (3, vI (j : Int))] [] X2 := by
    intro hn0 hm1
    refine upTo (vn v) ?_
    intro j hj ih X2 hfr
    have z1 : X2 5 0 = (vn v : Int) := (hfr 5 0 (by decide)).trans x1
    have em : m = (m.toNat : Int) := by omega
    refine g_iload_n rfl dX7_words_30 ?_
    refine g_aload_n rfl dX7_words_31 ?_
    refine gf_X7_23 (c2 := 5) rfl rfl (by first | rfl | assumption) dX7_words_32 ?_
    refine gf_X7_74 rfl (by first | rfl | assumption) dX7_words_35 ?_
    refine g_icmp_ge (t := 56) dX7_words_38 (by decide) (by first | omega | (simp [st2]; done) | (simp [st2]; omega)) (by first | omega | (simp [st2]; done) | (simp [st2]; omega)) (fun b38 => ?_) (fun b38 => ?_)
    · refine g_iload_n rfl dX7_words_56 ?_
      refine g_ireturn rfl dX7_words_57 ?_
      obtain rfl : j = vn v := by omega
      exact h2 hn0 hm1 X2 hfr
    · refine g_iload_n rfl dX7_words_41 ?_
      refine g_aload_n rfl dX7_words_42 ?_
      refine g_iload_n rfl dX7_words_43 ?_
      refine g_iload_n rfl dX7_words_44 ?_
      rw [em]
      refine g_cv2 (M2 := mX7_beginningsBehind) (ci := 7) dX7_words_45 ml_RX7_205 kX7_beginningsBehind (by decide) (by first | rfl | assumption) (by decide) rfl (by unfold Rm; decide) (Nat.le_of_ble_eq_true rfl) (ct_X7_beginningsBehind ((hW hn0).fr (fun d k q1 q2 => hfr d k (by omega))) (hv hn0) (by omega) (by omega) (fun X3 f3 => ?_))
      rw [← em]
      refine g_iadd dX7_words_48 ?_
      refine g_istore_n (by decide) dX7_words_49 ?_
      refine g_iinc rfl (by decide) dX7_words_50 ?_
      refine g_goto (t := 30) dX7_words_53 (by decide) ?_
      refine g_subl [(0, vR 0), (1, vI m), (2, vI (fb_sm (bbW v m.toNat) (j + 1) : Int)), (3, vI ((j + 1 : Nat) : Int))] ?_ ?_
      · rw [fb_sm_succ, Int.natCast_add]
        rfl
      · exact ih (j + 1) (by omega) (by omega) X3 (fun d k hd => (f3 d k hd).trans (hfr d k hd))
  refine g_aload_n rfl dX7_words_0 ?_
  refine gf_X7_23 (c2 := 5) rfl rfl (by first | rfl | assumption) dX7_words_1 ?_
  refine gf_X7_74 rfl (by first | rfl | assumption) dX7_words_4 ?_
  refine g_if_ne (t := 12) dX7_words_7 (by decide) (by first | omega | (simp [st2]; done) | (simp [st2]; omega)) (fun b7 => ?_) (fun b7 => ?_)
  · refine g_iload_n rfl dX7_words_12 ?_
    refine g_iconst dX7_words_13 ?_
    refine g_icmp_lt (t := 23) dX7_words_14 (by decide) (by first | omega | (simp [st2]; done) | (simp [st2]; omega)) (by first | omega | (simp [st2]; done) | (simp [st2]; omega)) (fun b14 => ?_) (fun b14 => ?_)
    · refine g_bipush (by decide) dX7_words_23 ?_
      refine g_ireturn rfl dX7_words_25 ?_
      exact h1 (by omega) (by omega)
    · refine g_iload_n rfl dX7_words_17 ?_
      refine g_bipush (by decide) dX7_words_18 ?_
      refine g_icmp_le (t := 26) dX7_words_20 (by decide) (by first | omega | (simp [st2]; done) | (simp [st2]; omega)) (by first | omega | (simp [st2]; done) | (simp [st2]; omega)) (fun b20 => ?_) (fun b20 => ?_)
      · refine g_iconst dX7_words_26 ?_
        refine g_istore_n (by decide) dX7_words_27 ?_
        refine g_iconst dX7_words_28 ?_
        refine g_istore_n (by decide) dX7_words_29 ?_
        refine g_subl [(0, vR 0), (1, vI m), (2, vI (fb_sm (bbW v m.toNat) 0 : Int)), (3, vI ((0 : Nat) : Int))] rfl ?_
        exact loop (by omega) (by omega) 0 (by omega) X (fun _ _ _ => rfl)
      · refine g_bipush (by decide) dX7_words_23 ?_
        refine g_ireturn rfl dX7_words_25 ?_
        exact h1 (by omega) (by omega)
  · refine g_iconst dX7_words_10 ?_
    refine g_ireturn rfl dX7_words_11 ?_
    exact h0 (by omega)
