/-- MOVES until it is below the value c: how many, and where it is then -/
def bkN (v : Mv) (c : Int) : Nat → Nat → Int → Int → Option (Nat × Int × Int)
  | 0, _, _, _ => none
  | d + 1, k, a, b => if (-536870912 ≤ gA v (va v) (vu v) a b ∧ gA v (va v) (vu v) a b ≤ 536870912) ∧ (-536870912 ≤ gB v (va v) (vu v) a b ∧ gB v (va v) (vu v) a b ≤ 536870912) then (if val (vr v) (gA v (va v) (vu v) a b) (gB v (va v) (vu v) a b) < c then some (k, gA v (va v) (vu v) a b, gB v (va v) (vu v) a b) else bkN v c d (k + 1) (gA v (va v) (vu v) a b) (gB v (va v) (vu v) a b)) else none
theorem bkN_pV {v : Mv} (hv : Vd v) {c : Int} : ∀ (d k : Nat) (a b : Int) (q : Nat) (a2 b2 : Int), ptOk v a b → bkN v c d k a b = some (q, a2, b2) → ptOk v a2 b2
  | 0, _, _, _, _, _, _, _, e => by cases e
  | d + 1, k, a, b, q, a2, b2, hp, e => by
    have hg := go_pV hv hv.2.2.2.2.1 hv.2.2.2.2.2.1 hp.2
    rw [bkN] at e
    split at e
    · next hq =>
      split at e
      · simp only [Option.some.injEq, Prod.mk.injEq] at e
        rw [← e.2.1, ← e.2.2]
        exact ⟨hq, hg.1⟩
      · exact bkN_pV hv d (k + 1) _ _ q a2 b2 ⟨hq, hg.1⟩ e
    · cases e
/-- may it be come back below this number -/
def bkOk (v : Mv) (x y : Int) : Prop := pB x y ∧ (vr v = 0 → y = 0) ∧ 0 < val (vr v) x y
set_option maxRecDepth 100000 in
set_option maxHeartbeats 4000000 in
theorem ct_X8_back {l : Launch} {g : Geo} {X : Mm} {K : AV → Mm → Prop} {v : Mv} {x y a b : Int} (hx : -2147483648 ≤ x ∧ x < 2147483648) (hy : -2147483648 ≤ y ∧ y < 2147483648) (ht : X 44 13 = 0 ∨ X 44 13 = 1) (hX : X 44 13 = 1 → MvM X v ∧ Vd v ∧ X 44 14 = a ∧ X 44 15 = b ∧ ptOk v a b) (h0 : (X 44 13 = 0 ∨ ¬ bkOk v x y) → K (vI (-1)) X) (h1 : X 44 13 = 1 → bkOk v x y → bkN v (val (vr v) x y) 1000 1 a b = none → ∀ X2, Sc X X2 → K (vI (-2)) X2) (h2 : X 44 13 = 1 → bkOk v x y → ∀ q a2 b2, bkN v (val (vr v) x y) 1000 1 a b = some (q, a2, b2) → ∀ X2, PtM X a2 b2 X2 → K (vI (q : Int)) X2) : Ct l g mX8_back [vR 44, vI x, vI y] X K := by
  refine enter (by decide) (Nat.le_of_ble_eq_true rfl) (fun κ => ?_)
  rcases ht with ht | ht
  · have ht2 := ht
    refine g_aload_n rfl dX8_back_0 ?_
    refine gf_X8_97 rfl (by first | rfl | assumption) dX8_back_1 ?_
    refine g_if_eq (t := 40) dX8_back_4 (by decide) (by first | omega | (simp [st2]; done) | (simp [st2]; omega)) (fun b4 => ?_) (fun b4 => ?_)
    · refine g_iconst dX8_back_40 ?_
      refine g_ireturn rfl dX8_back_41 ?_
      exact h0 (Or.inl ht)
    · exfalso; omega
  · obtain ⟨hX, hv, ea, eb, hp⟩ := hX ht
    have x2 := hX.2.1
    have hr := hv.2.2.1
    have hr2 := hr
    unfold isRoot at hr2
    obtain ⟨R, hR⟩ : ∃ R, R = bkN v (val (vr v) x y) 1000 1 a b := ⟨_, rfl⟩
    rw [← hR] at h1 h2
    have loop : bkOk v x y → ∀ k : Nat, k ≤ 1000 → ∀ (p q : Int) (X2 : Mm), R = bkN v (val (vr v) x y) (1000 - k) (k + 1) p q → ptOk v p q → Sc X X2 → G l g mX8_back κ K 56 [(0, vR 44), (1, vI x), (2, vI y), (3, vJ p), (5, vJ q), (7, vI ((k + 1 : Nat) : Int))] [] X2 := by
      intro hbk
      refine upTo 1000 ?_
      intro k hkm ih p q X2 hs hpq hsc
      have hpv := go_pV hv hv.2.2.2.2.1 hv.2.2.2.2.2.1 hpq.2
      have hpb := hpq.1
      have hbk1 := hbk.1
      unfold pB at hpb hbk1
      refine g_iload rfl dX8_back_56 ?_
      refine g_sipush (by decide) dX8_back_58 ?_
      refine g_icmp_gt (t := 131) dX8_back_61 (by decide) (by first | omega | (simp [st2]; done) | (simp [st2]; omega)) (by first | omega | (simp [st2]; done) | (simp [st2]; omega)) (fun b61 => ?_) (fun b61 => ?_)
      · refine g_bipush (by decide) dX8_back_131 ?_
        refine g_ireturn rfl dX8_back_133 ?_
        rw [show 1000 - k = 0 by omega, bkN] at hs
        exact h1 ht hbk hs _ hsc
      · refine g_aload_n rfl dX8_back_64 ?_
        refine g_lload_n rfl dX8_back_65 ?_
        refine g_lload rfl dX8_back_66 ?_
        refine g_iconst dX8_back_68 ?_
        refine g_cv3v (M2 := mX8_goes) (ci := 8) dX8_back_69 ml_RX8_163 kX8_goes rfl (by first | rfl | assumption) (by decide) rfl (by unfold Rm; decide) (Nat.le_of_ble_eq_true rfl) (ct_X8_goes (f := va v) (h := vu v) (Or.inl ⟨rfl, rfl, rfl⟩) (hX.sc hsc) hv hpq.1 hpq.2 (fun X3 hsc3 g18 g19 => ?_))
        refine g_aload_n rfl dX8_back_72 ?_
        refine gf_X8_139 rfl (by first | rfl | assumption) dX8_back_73 ?_
        rw [g18]
        refine g_lstore_n (by decide) dX8_back_76 ?_
        refine g_aload_n rfl dX8_back_77 ?_
        refine gf_X8_142 rfl (by first | rfl | assumption) dX8_back_78 ?_
        rw [g19]
        refine g_lstore (by decide) dX8_back_81 ?_
        refine g_lload_n rfl dX8_back_83 ?_
        refine g_lload rfl dX8_back_84 ?_
        refine g_cs2 (M2 := mX8_isPoint) dX8_back_86 ml_RX8_151 kX8_isPoint rfl (by decide) (by unfold Rm; decide) (Nat.le_of_ble_eq_true rfl) (ct_X8_isPoint (by omega) (by omega) ?_)
        obtain ⟨d, hd⟩ : ∃ d, 1000 - k = d + 1 := ⟨1000 - k - 1, by omega⟩
        rw [hd, bkN] at hs
        have hX3 := hX.sc (hsc.tr hsc3)
        refine g_if_ne (t := 95) dX8_back_89 (by decide) (by first | omega | (simp [st2]; done) | (simp [st2]; omega)) (fun b89 => ?_) (fun b89 => ?_)
        · rw [if_pos (by omega)] at hs
          refine g_aload_n rfl dX8_back_95 ?_
          refine g_lload_n rfl dX8_back_96 ?_
          refine g_iload_n rfl dX8_back_97 ?_
          refine g_i2l (by first | omega | (simp [st2]; done) | (simp [st2]; omega)) dX8_back_98 ?_
          refine g_lsub dX8_back_99 ?_
          refine g_lload rfl dX8_back_100 ?_
          refine g_iload_n rfl dX8_back_102 ?_
          refine g_i2l (by first | omega | (simp [st2]; done) | (simp [st2]; omega)) dX8_back_103 ?_
          refine g_lsub dX8_back_104 ?_
          refine g_cv2 (M2 := mX8_signOf) (ci := 8) dX8_back_105 ml_RX8_116 kX8_signOf (by decide) (by first | rfl | assumption) (by decide) rfl (by unfold Rm; decide) (Nat.le_of_ble_eq_true rfl) (ct_X8_signOf (by rw [hX3.2.1]; exact hr) (by omega) (by omega) ?_)
          rw [hX3.2.1]
          have hsg := sgn_neg (r := vr v) (a := gA v (va v) (vu v) p q - x) (b := gB v (va v) (vu v) p q - y) hr (fun e => by rw [hpv.1.1 e, hbk.2.1 e]; rfl) (by omega) (by omega)
          rw [val_sub] at hsg
          refine g_if_ge (t := 125) dX8_back_108 (by decide) (by first | omega | (simp [st2]; done) | (simp [st2]; omega)) (fun b108 => ?_) (fun b108 => ?_)
          · refine g_iinc rfl (by decide) dX8_back_125 ?_
            refine g_goto (t := 56) dX8_back_128 (by decide) ?_
            rw [if_neg (by omega)] at hs
            refine g_subl [(0, vR 44), (1, vI x), (2, vI y), (3, vJ (gA v (va v) (vu v) p q)), (5, vJ (gB v (va v) (vu v) p q)), (7, vI ((k + 1 + 1 : Nat) : Int))] rfl ?_
            exact ih (k + 1) (by omega) (by omega) _ _ _ (by rw [hs, show 1000 - (k + 1) = d by omega]) ⟨by unfold pB; omega, hpv.1⟩ (hsc.tr hsc3)
          · refine g_aload_n rfl dX8_back_111 ?_
            refine g_lload_n rfl dX8_back_112 ?_
            refine pf_X8_157 rfl (by first | rfl | assumption) dX8_back_113 ?_
            refine g_aload_n rfl dX8_back_116 ?_
            refine g_lload rfl dX8_back_117 ?_
            refine pf_X8_160 rfl (by first | rfl | assumption) dX8_back_119 ?_
            refine g_iload rfl dX8_back_122 ?_
            refine g_ireturn rfl dX8_back_124 ?_
            rw [if_pos (by omega)] at hs
            refine h2 ht hbk _ _ _ hs _ ⟨fun c j hc => by simp [st2, hc]; rw [hsc3.1 c j hc, hsc.1 c j hc], fun j hj => by
              have z2 : j ≠ 14 := by omega
              have z3 : j ≠ 15 := by omega
              simp [st2, z2, z3]
              rw [hsc3.2 j (by omega), hsc.2 j (by omega)], by
              simp [st2]
              rw [hsc3.2 13 (by omega), hsc.2 13 (by omega)]
              exact ht, rfl, rfl⟩
        · refine g_bipush (by decide) dX8_back_92 ?_
          refine g_ireturn rfl dX8_back_94 ?_
          rw [if_neg (by omega)] at hs
          exact h1 ht hbk hs _ (hsc.tr hsc3)
    refine g_aload_n rfl dX8_back_0 ?_
    refine gf_X8_97 rfl (by first | rfl | assumption) dX8_back_1 ?_
    refine g_if_eq (t := 40) dX8_back_4 (by decide) (by first | omega | (simp [st2]; done) | (simp [st2]; omega)) (fun b4 => ?_) (fun b4 => ?_)
    · exfalso; omega
    · refine g_iload_n rfl dX8_back_7 ?_
      refine g_i2l (by first | omega | (simp [st2]; done) | (simp [st2]; omega)) dX8_back_8 ?_
      refine g_iload_n rfl dX8_back_9 ?_
      refine g_i2l (by first | omega | (simp [st2]; done) | (simp [st2]; omega)) dX8_back_10 ?_
      refine g_cs2 (M2 := mX8_isPoint) dX8_back_11 ml_RX8_151 kX8_isPoint rfl (by decide) (by unfold Rm; decide) (Nat.le_of_ble_eq_true rfl) (ct_X8_isPoint (by omega) (by omega) ?_)
      refine g_if_eq (t := 40) dX8_back_14 (by decide) (by first | omega | (simp [st2]; done) | (simp [st2]; omega)) (fun b14 => ?_) (fun b14 => ?_)
      · refine g_iconst dX8_back_40 ?_
        refine g_ireturn rfl dX8_back_41 ?_
        refine h0 (Or.inr (fun q => ?_))
        have q1 := q.1
        have q2 := q.2.1
        have q3 := q.2.2
        unfold pB at q1
        omega
      · refine g_aload_n rfl dX8_back_17 ?_
        refine gf_X8_87 rfl (by first | rfl | assumption) dX8_back_18 ?_
        refine g_if_ne (t := 28) dX8_back_21 (by decide) (by first | omega | (simp [st2]; done) | (simp [st2]; omega)) (fun b21 => ?_) (fun b21 => ?_)
        · have hsg := sgn_neg (r := vr v) (a := x) (b := y) hr (by omega) (by omega) (by omega)
          refine g_aload_n rfl dX8_back_28 ?_
          refine g_iload_n rfl dX8_back_29 ?_
          refine g_i2l (by first | omega | (simp [st2]; done) | (simp [st2]; omega)) dX8_back_30 ?_
          refine g_iload_n rfl dX8_back_31 ?_
          refine g_i2l (by first | omega | (simp [st2]; done) | (simp [st2]; omega)) dX8_back_32 ?_
          refine g_cv2 (M2 := mX8_signOf) (ci := 8) dX8_back_33 ml_RX8_116 kX8_signOf (by decide) (by first | rfl | assumption) (by decide) rfl (by unfold Rm; decide) (Nat.le_of_ble_eq_true rfl) (ct_X8_signOf (by rw [x2]; exact hr) (by omega) (by omega) ?_)
          rw [x2]
          refine g_iconst dX8_back_36 ?_
          refine g_icmp_ge (t := 42) dX8_back_37 (by decide) (by first | omega | (simp [st2]; done) | (simp [st2]; omega)) (by first | omega | (simp [st2]; done) | (simp [st2]; omega)) (fun b37 => ?_) (fun b37 => ?_)
          · refine g_aload_n rfl dX8_back_42 ?_
            refine gf_X8_157 rfl (by first | rfl | assumption) dX8_back_43 ?_
            refine g_lstore_n (by decide) dX8_back_46 ?_
            refine g_aload_n rfl dX8_back_47 ?_
            refine gf_X8_160 rfl (by first | rfl | assumption) dX8_back_48 ?_
            refine g_lstore (by decide) dX8_back_51 ?_
            refine g_iconst dX8_back_53 ?_
            refine g_istore (by decide) dX8_back_54 ?_
            refine g_subl [(0, vR 44), (1, vI x), (2, vI y), (3, vJ a), (5, vJ b), (7, vI ((0 + 1 : Nat) : Int))] (by rw [ea, eb]; rfl) ?_
            exact loop ⟨by unfold pB; omega, by omega, by omega⟩ 0 (by omega) a b X hR hp (Sc.rf X)
          · refine g_iconst dX8_back_40 ?_
            refine g_ireturn rfl dX8_back_41 ?_
            refine h0 (Or.inr (fun q => ?_))
            have q1 := q.1
            have q2 := q.2.1
            have q3 := q.2.2
            unfold pB at q1
            omega
        · refine g_iload_n rfl dX8_back_24 ?_
          refine g_if_ne (t := 40) dX8_back_25 (by decide) (by first | omega | (simp [st2]; done) | (simp [st2]; omega)) (fun b25 => ?_) (fun b25 => ?_)
          · refine g_iconst dX8_back_40 ?_
            refine g_ireturn rfl dX8_back_41 ?_
            refine h0 (Or.inr (fun q => ?_))
            have q1 := q.1
            have q2 := q.2.1
            have q3 := q.2.2
            unfold pB at q1
            omega
          · have hsg := sgn_neg (r := vr v) (a := x) (b := y) hr (by omega) (by omega) (by omega)
            refine g_aload_n rfl dX8_back_28 ?_
            refine g_iload_n rfl dX8_back_29 ?_
            refine g_i2l (by first | omega | (simp [st2]; done) | (simp [st2]; omega)) dX8_back_30 ?_
            refine g_iload_n rfl dX8_back_31 ?_
            refine g_i2l (by first | omega | (simp [st2]; done) | (simp [st2]; omega)) dX8_back_32 ?_
            refine g_cv2 (M2 := mX8_signOf) (ci := 8) dX8_back_33 ml_RX8_116 kX8_signOf (by decide) (by first | rfl | assumption) (by decide) rfl (by unfold Rm; decide) (Nat.le_of_ble_eq_true rfl) (ct_X8_signOf (by rw [x2]; exact hr) (by omega) (by omega) ?_)
            rw [x2]
            refine g_iconst dX8_back_36 ?_
            refine g_icmp_ge (t := 42) dX8_back_37 (by decide) (by first | omega | (simp [st2]; done) | (simp [st2]; omega)) (by first | omega | (simp [st2]; done) | (simp [st2]; omega)) (fun b37 => ?_) (fun b37 => ?_)
            · refine g_aload_n rfl dX8_back_42 ?_
              refine gf_X8_157 rfl (by first | rfl | assumption) dX8_back_43 ?_
              refine g_lstore_n (by decide) dX8_back_46 ?_
              refine g_aload_n rfl dX8_back_47 ?_
              refine gf_X8_160 rfl (by first | rfl | assumption) dX8_back_48 ?_
              refine g_lstore (by decide) dX8_back_51 ?_
              refine g_iconst dX8_back_53 ?_
              refine g_istore (by decide) dX8_back_54 ?_
              refine g_subl [(0, vR 44), (1, vI x), (2, vI y), (3, vJ a), (5, vJ b), (7, vI ((0 + 1 : Nat) : Int))] (by rw [ea, eb]; rfl) ?_
              exact loop ⟨by unfold pB; omega, by omega, by omega⟩ 0 (by omega) a b X hR hp (Sc.rf X)
            · refine g_iconst dX8_back_40 ?_
              refine g_ireturn rfl dX8_back_41 ?_
              refine h0 (Or.inr (fun q => ?_))
              have q1 := q.1
              have q2 := q.2.1
              have q3 := q.2.2
              unfold pB at q1
              omega
/-- how often in SPAN k behind each of the next d MOVES; -1: beyond the bounds -/
def vr2 (v : Mv) (k : Int) : Nat → Int → Int → Int
  | 0, _, _ => 0
  | d + 1, a, b => if (-536870912 ≤ gA v (va v) (vu v) a b ∧ gA v (va v) (vu v) a b ≤ 536870912) ∧ (-536870912 ≤ gB v (va v) (vu v) a b ∧ gB v (va v) (vu v) a b ≤ 536870912) then (if vr2 v k d (gA v (va v) (vu v) a b) (gB v (va v) (vu v) a b) < 0 then -1 else vr2 v k d (gA v (va v) (vu v) a b) (gB v (va v) (vu v) a b) + if (spanOf v (gA v (va v) (vu v) a b) (gB v (va v) (vu v) a b) : Int) = k then 1 else 0) else -1
theorem vr2_bd (v : Mv) (k : Int) : ∀ (d : Nat) (a b : Int), -1 ≤ vr2 v k d a b ∧ vr2 v k d a b ≤ d
  | 0, _, _ => by simp [vr2]
  | d + 1, a, b => by
    have h := vr2_bd v k d (gA v (va v) (vu v) a b) (gB v (va v) (vu v) a b)
    rw [vr2]
    repeat' split
    all_goals omega
def fin2 (acc s : Int) : Int := if s < 0 then -1 else acc + s
theorem spanOf_lt {v : Mv} (hv : Vd v) {a b : Int} (hp : pV v a b) : spanOf v a b < vn v := hv.2.2.2.2.1.1 _ (sidx_spec hp.2.1 (by rw [hv.tot hv.2.2.2.2.1]; exact hp.2.2)).1
set_option maxRecDepth 100000 in
set_option maxHeartbeats 4000000 in
theorem ct_X8_visits {l : Launch} {g : Geo} {X : Mm} {K : AV → Mm → Prop} {v : Mv} {k m a b : Int} {n : Nat} (hk : -2147483648 ≤ k ∧ k < 2147483648) (hm : -2147483648 ≤ m ∧ m < 2147483648) (hn : X 44 5 = (n : Int)) (hn8 : n ≤ 8) (ht : X 44 13 = 0 ∨ X 44 13 = 1) (hX : X 44 13 = 1 → MvM X v ∧ Vd v ∧ X 44 14 = a ∧ X 44 15 = b ∧ ptOk v a b) (h0 : (X 44 13 = 0 ∨ k < 0 ∨ (n : Int) ≤ k ∨ m < 1 ∨ 1000 < m) → K (vI (-1)) X) (h1 : X 44 13 = 1 → (0 ≤ k ∧ k < n ∧ 1 ≤ m ∧ m ≤ 1000) → ∀ X2, Sc X X2 → K (vI (fin2 (if (spanOf v a b : Int) = k then 1 else 0) (vr2 v k (m.toNat - 1) a b))) X2) : Ct l g mX8_visits [vR 44, vI k, vI m] X K := by
  refine enter (by decide) (Nat.le_of_ble_eq_true rfl) (fun κ => ?_)
  rcases ht with ht | ht
  · have ht2 := ht
    refine g_aload_n rfl dX8_visits_0 ?_
    refine gf_X8_97 rfl (by first | rfl | assumption) dX8_visits_1 ?_
    refine g_if_eq (t := 31) dX8_visits_4 (by decide) (by first | omega | (simp [st2]; done) | (simp [st2]; omega)) (fun b4 => ?_) (fun b4 => ?_)
    · refine g_iconst dX8_visits_31 ?_
      refine g_ireturn rfl dX8_visits_32 ?_
      exact h0 (Or.inl ht)
    · exfalso; omega
  · obtain ⟨hX, hv, ea, eb, hp⟩ := hX ht
    have h8 := hv.2.1
    obtain ⟨R, hR⟩ : ∃ R, R = fin2 (if (spanOf v a b : Int) = k then 1 else 0) (vr2 v k (m.toNat - 1) a b) := ⟨_, rfl⟩
    rw [← hR] at h1
    have loop : (0 ≤ k ∧ k < n ∧ 1 ≤ m ∧ m ≤ 1000) → ∀ i : Nat, i ≤ m.toNat → 1 ≤ i → ∀ (p q acc : Int) (X2 : Mm), R = fin2 acc (vr2 v k (m.toNat - i) p q) → (0 ≤ acc ∧ acc ≤ i) → ptOk v p q → Sc X X2 → G l g mX8_visits κ K 50 [(0, vR 44), (1, vI k), (2, vI m), (3, vJ p), (5, vJ q), (7, vI acc), (8, vI (i : Int))] [] X2 := by
      intro hkm
      refine upTo m.toNat ?_
      intro i him ih hi1 p q acc X2 hs hacc hpq hsc
      have hpv := go_pV hv hv.2.2.2.2.1 hv.2.2.2.2.2.1 hpq.2
      have hsl := spanOf_lt hv hpv.1
      have hpb := hpq.1
      unfold pB at hpb
      refine g_iload rfl dX8_visits_50 ?_
      refine g_iload_n rfl dX8_visits_52 ?_
      refine g_icmp_ge (t := 115) dX8_visits_53 (by decide) (by first | omega | (simp [st2]; done) | (simp [st2]; omega)) (by first | omega | (simp [st2]; done) | (simp [st2]; omega)) (fun b53 => ?_) (fun b53 => ?_)
      · refine g_iload rfl dX8_visits_115 ?_
        refine g_ireturn rfl dX8_visits_117 ?_
        rw [show m.toNat - i = 0 by omega, vr2] at hs
        refine kE (h1 ht hkm _ hsc) ?_
        rw [hs]
        unfold fin2
        rw [if_neg (by omega)]
        omega
      · refine g_iload rfl dX8_visits_56 ?_
        refine g_if_le (t := 91) dX8_visits_58 (by decide) (by first | omega | (simp [st2]; done) | (simp [st2]; omega)) (fun b58 => ?_) (fun b58 => ?_)
        · exfalso; omega
        · refine g_aload_n rfl dX8_visits_61 ?_
          refine g_lload_n rfl dX8_visits_62 ?_
          refine g_lload rfl dX8_visits_63 ?_
          refine g_iconst dX8_visits_65 ?_
          refine g_cv3v (M2 := mX8_goes) (ci := 8) dX8_visits_66 ml_RX8_163 kX8_goes rfl (by first | rfl | assumption) (by decide) rfl (by unfold Rm; decide) (Nat.le_of_ble_eq_true rfl) (ct_X8_goes (f := va v) (h := vu v) (Or.inl ⟨rfl, rfl, rfl⟩) (hX.sc hsc) hv hpq.1 hpq.2 (fun X3 hsc3 g18 g19 => ?_))
          refine g_aload_n rfl dX8_visits_69 ?_
          refine gf_X8_139 rfl (by first | rfl | assumption) dX8_visits_70 ?_
          rw [g18]
          refine g_lstore_n (by decide) dX8_visits_73 ?_
          refine g_aload_n rfl dX8_visits_74 ?_
          refine gf_X8_142 rfl (by first | rfl | assumption) dX8_visits_75 ?_
          rw [g19]
          refine g_lstore (by decide) dX8_visits_78 ?_
          refine g_lload_n rfl dX8_visits_80 ?_
          refine g_lload rfl dX8_visits_81 ?_
          refine g_cs2 (M2 := mX8_isPoint) dX8_visits_83 ml_RX8_151 kX8_isPoint rfl (by decide) (by unfold Rm; decide) (Nat.le_of_ble_eq_true rfl) (ct_X8_isPoint (by omega) (by omega) ?_)
          obtain ⟨d, hd⟩ : ∃ d, m.toNat - i = d + 1 := ⟨m.toNat - i - 1, by omega⟩
          rw [hd, vr2] at hs
          have hX3 := hX.sc (hsc.tr hsc3)
          have hvb := vr2_bd v k d (gA v (va v) (vu v) p q) (gB v (va v) (vu v) p q)
          refine g_if_ne (t := 91) dX8_visits_86 (by decide) (by first | omega | (simp [st2]; done) | (simp [st2]; omega)) (fun b86 => ?_) (fun b86 => ?_)
          · rw [if_pos (by omega)] at hs
            have hq3 : ptOk v (gA v (va v) (vu v) p q) (gB v (va v) (vu v) p q) := ⟨by unfold pB; omega, hpv.1⟩
            refine g_aload_n rfl dX8_visits_91 ?_
            refine g_aload_n rfl dX8_visits_92 ?_
            refine gf_X8_26 (c2 := 50) rfl rfl (by first | rfl | assumption) dX8_visits_93 ?_
            refine g_lload_n rfl dX8_visits_96 ?_
            refine g_lload rfl dX8_visits_97 ?_
            refine g_cv3 (M2 := mX8_spanAt) (ci := 8) dX8_visits_99 ml_RX8_135 kX8_spanAt (by decide) (by first | rfl | assumption) (by decide) rfl (by unfold Rm; decide) (Nat.le_of_ble_eq_true rfl) (ct_X8_spanAt (f := va v) hX3 hv hv.2.2.2.2.1 rfl rfl (by decide) (fun j hj => (hX3.2.2.1 j hj).2.2.1) hq3.1 hq3.2.1 hq3.2.2 ?_)
            show G l g mX8_visits κ K 102 _ [vI (spanOf v (gA v (va v) (vu v) p q) (gB v (va v) (vu v) p q) : Int)] _
            refine g_iload_n rfl dX8_visits_102 ?_
            refine g_icmp_ne (t := 109) dX8_visits_103 (by decide) (by first | omega | (simp [st2]; done) | (simp [st2]; omega)) (by first | omega | (simp [st2]; done) | (simp [st2]; omega)) (fun b103 => ?_) (fun b103 => ?_)
            · refine g_iinc rfl (by decide) dX8_visits_109 ?_
              refine g_goto (t := 50) dX8_visits_112 (by decide) ?_
              first
                | (refine g_subl [(0, vR 44), (1, vI k), (2, vI m), (3, vJ (gA v (va v) (vu v) p q)), (5, vJ (gB v (va v) (vu v) p q)), (7, vI acc), (8, vI ((i + 1 : Nat) : Int))] rfl ?_
                   refine ih (i + 1) (by omega) (by omega) (by omega) _ _ _ _ ?_ (by omega) hq3 ((hsc.tr hsc3).tr (Sc.lf _ _ _))
                   rw [hs, if_neg b103, show m.toNat - (i + 1) = d by omega]
                   unfold fin2
                   repeat' split
                   all_goals omega)
                | (refine g_subl [(0, vR 44), (1, vI k), (2, vI m), (3, vJ (gA v (va v) (vu v) p q)), (5, vJ (gB v (va v) (vu v) p q)), (7, vI (acc + 1)), (8, vI ((i + 1 : Nat) : Int))] rfl ?_
                   refine ih (i + 1) (by omega) (by omega) (by omega) _ _ _ _ ?_ (by omega) hq3 ((hsc.tr hsc3).tr (Sc.lf _ _ _))
                   rw [hs, if_pos b103, show m.toNat - (i + 1) = d by omega]
                   unfold fin2
                   repeat' split
                   all_goals omega)
            · refine g_iinc rfl (by decide) dX8_visits_106 ?_
              refine g_iinc rfl (by decide) dX8_visits_109 ?_
              refine g_goto (t := 50) dX8_visits_112 (by decide) ?_
              first
                | (refine g_subl [(0, vR 44), (1, vI k), (2, vI m), (3, vJ (gA v (va v) (vu v) p q)), (5, vJ (gB v (va v) (vu v) p q)), (7, vI acc), (8, vI ((i + 1 : Nat) : Int))] rfl ?_
                   refine ih (i + 1) (by omega) (by omega) (by omega) _ _ _ _ ?_ (by omega) hq3 ((hsc.tr hsc3).tr (Sc.lf _ _ _))
                   rw [hs, if_neg b103, show m.toNat - (i + 1) = d by omega]
                   unfold fin2
                   repeat' split
                   all_goals omega)
                | (refine g_subl [(0, vR 44), (1, vI k), (2, vI m), (3, vJ (gA v (va v) (vu v) p q)), (5, vJ (gB v (va v) (vu v) p q)), (7, vI (acc + 1)), (8, vI ((i + 1 : Nat) : Int))] rfl ?_
                   refine ih (i + 1) (by omega) (by omega) (by omega) _ _ _ _ ?_ (by omega) hq3 ((hsc.tr hsc3).tr (Sc.lf _ _ _))
                   rw [hs, if_pos b103, show m.toNat - (i + 1) = d by omega]
                   unfold fin2
                   repeat' split
                   all_goals omega)
          · refine g_iconst dX8_visits_89 ?_
            refine g_ireturn rfl dX8_visits_90 ?_
            rw [if_neg (by omega)] at hs
            refine kE (h1 ht hkm _ (hsc.tr hsc3)) ?_
            rw [hs]
            rfl
    have hsl := spanOf_lt hv hp.2
    have start : (0 ≤ k ∧ k < n ∧ 1 ≤ m ∧ m ≤ 1000) → G l g mX8_visits κ K 50 [(0, vR 44), (1, vI k), (2, vI m), (3, vJ a), (5, vJ b), (7, vI 0), (8, vI 0)] [] X := by
      intro hkm
      refine g_iload rfl dX8_visits_50 ?_
      refine g_iload_n rfl dX8_visits_52 ?_
      refine g_icmp_ge (t := 115) dX8_visits_53 (by decide) (by first | omega | (simp [st2]; done) | (simp [st2]; omega)) (by first | omega | (simp [st2]; done) | (simp [st2]; omega)) (fun b53 => ?_) (fun b53 => ?_)
      · exfalso; omega
      · refine g_iload rfl dX8_visits_56 ?_
        refine g_if_le (t := 91) dX8_visits_58 (by decide) (by first | omega | (simp [st2]; done) | (simp [st2]; omega)) (fun b58 => ?_) (fun b58 => ?_)
        · refine g_aload_n rfl dX8_visits_91 ?_
          refine g_aload_n rfl dX8_visits_92 ?_
          refine gf_X8_26 (c2 := 50) rfl rfl (by first | rfl | assumption) dX8_visits_93 ?_
          refine g_lload_n rfl dX8_visits_96 ?_
          refine g_lload rfl dX8_visits_97 ?_
          refine g_cv3 (M2 := mX8_spanAt) (ci := 8) dX8_visits_99 ml_RX8_135 kX8_spanAt (by decide) (by first | rfl | assumption) (by decide) rfl (by unfold Rm; decide) (Nat.le_of_ble_eq_true rfl) (ct_X8_spanAt (f := va v) hX hv hv.2.2.2.2.1 rfl rfl (by decide) (fun j hj => (hX.2.2.1 j hj).2.2.1) hp.1 hp.2.1 hp.2.2 ?_)
          show G l g mX8_visits κ K 102 _ [vI (spanOf v a b : Int)] _
          refine g_iload_n rfl dX8_visits_102 ?_
          refine g_icmp_ne (t := 109) dX8_visits_103 (by decide) (by first | omega | (simp [st2]; done) | (simp [st2]; omega)) (by first | omega | (simp [st2]; done) | (simp [st2]; omega)) (fun b103 => ?_) (fun b103 => ?_)
          · refine g_iinc rfl (by decide) dX8_visits_109 ?_
            refine g_goto (t := 50) dX8_visits_112 (by decide) ?_
            first
              | (refine g_subl [(0, vR 44), (1, vI k), (2, vI m), (3, vJ a), (5, vJ b), (7, vI 0), (8, vI ((1 : Nat) : Int))] rfl ?_
                 exact loop hkm 1 (by omega) (by omega) a b 0 _ (by rw [hR, if_neg b103]) (by omega) hp (Sc.lf _ _ _))
              | (refine g_subl [(0, vR 44), (1, vI k), (2, vI m), (3, vJ a), (5, vJ b), (7, vI 1), (8, vI ((1 : Nat) : Int))] rfl ?_
                 exact loop hkm 1 (by omega) (by omega) a b 1 _ (by rw [hR, if_pos b103]) (by omega) hp (Sc.lf _ _ _))
          · refine g_iinc rfl (by decide) dX8_visits_106 ?_
            refine g_iinc rfl (by decide) dX8_visits_109 ?_
            refine g_goto (t := 50) dX8_visits_112 (by decide) ?_
            first
              | (refine g_subl [(0, vR 44), (1, vI k), (2, vI m), (3, vJ a), (5, vJ b), (7, vI 0), (8, vI ((1 : Nat) : Int))] rfl ?_
                 exact loop hkm 1 (by omega) (by omega) a b 0 _ (by rw [hR, if_neg b103]) (by omega) hp (Sc.lf _ _ _))
              | (refine g_subl [(0, vR 44), (1, vI k), (2, vI m), (3, vJ a), (5, vJ b), (7, vI 1), (8, vI ((1 : Nat) : Int))] rfl ?_
                 exact loop hkm 1 (by omega) (by omega) a b 1 _ (by rw [hR, if_pos b103]) (by omega) hp (Sc.lf _ _ _))
        · exfalso; omega
    refine g_aload_n rfl dX8_visits_0 ?_
    refine gf_X8_97 rfl (by first | rfl | assumption) dX8_visits_1 ?_
    refine g_if_eq (t := 31) dX8_visits_4 (by decide) (by first | omega | (simp [st2]; done) | (simp [st2]; omega)) (fun b4 => ?_) (fun b4 => ?_)
    · exfalso; omega
    · refine g_iload_n rfl dX8_visits_7 ?_
      refine g_if_lt (t := 31) dX8_visits_8 (by decide) (by first | omega | (simp [st2]; done) | (simp [st2]; omega)) (fun b8 => ?_) (fun b8 => ?_)
      · refine g_iconst dX8_visits_31 ?_
        refine g_ireturn rfl dX8_visits_32 ?_
        exact h0 (by omega)
      · refine g_iload_n rfl dX8_visits_11 ?_
        refine g_aload_n rfl dX8_visits_12 ?_
        refine gf_X8_94 rfl (by first | rfl | assumption) dX8_visits_13 ?_
        refine g_icmp_ge (t := 31) dX8_visits_16 (by decide) (by first | omega | (simp [st2]; done) | (simp [st2]; omega)) (by first | omega | (simp [st2]; done) | (simp [st2]; omega)) (fun b16 => ?_) (fun b16 => ?_)
        · refine g_iconst dX8_visits_31 ?_
          refine g_ireturn rfl dX8_visits_32 ?_
          exact h0 (by omega)
        · refine g_iload_n rfl dX8_visits_19 ?_
          refine g_iconst dX8_visits_20 ?_
          refine g_icmp_lt (t := 31) dX8_visits_21 (by decide) (by first | omega | (simp [st2]; done) | (simp [st2]; omega)) (by first | omega | (simp [st2]; done) | (simp [st2]; omega)) (fun b21 => ?_) (fun b21 => ?_)
          · refine g_iconst dX8_visits_31 ?_
            refine g_ireturn rfl dX8_visits_32 ?_
            exact h0 (by omega)
          · refine g_iload_n rfl dX8_visits_24 ?_
            refine g_sipush (by decide) dX8_visits_25 ?_
            refine g_icmp_le (t := 33) dX8_visits_28 (by decide) (by first | omega | (simp [st2]; done) | (simp [st2]; omega)) (by first | omega | (simp [st2]; done) | (simp [st2]; omega)) (fun b28 => ?_) (fun b28 => ?_)
            · refine g_aload_n rfl dX8_visits_33 ?_
              refine gf_X8_157 rfl (by first | rfl | assumption) dX8_visits_34 ?_
              refine g_lstore_n (by decide) dX8_visits_37 ?_
              refine g_aload_n rfl dX8_visits_38 ?_
              refine gf_X8_160 rfl (by first | rfl | assumption) dX8_visits_39 ?_
              refine g_lstore (by decide) dX8_visits_42 ?_
              refine g_iconst dX8_visits_44 ?_
              refine g_istore (by decide) dX8_visits_45 ?_
              refine g_iconst dX8_visits_47 ?_
              refine g_istore (by decide) dX8_visits_48 ?_
              refine g_subl [(0, vR 44), (1, vI k), (2, vI m), (3, vJ a), (5, vJ b), (7, vI 0), (8, vI 0)] (by rw [ea, eb]; rfl) ?_
              exact start (by omega)
            · refine g_iconst dX8_visits_31 ?_
              refine g_ireturn rfl dX8_visits_32 ?_
              exact h0 (by omega)
