/-! the reference's points -/
def MvM (X : Mm) (v : Mv) : Prop := X 44 5 = (vn v : Int) ∧ X 44 0 = vr v ∧ (∀ k, k < vn v → X 48 k = vA v k ∧ X 49 k = vB v k ∧ X 50 k = (va v k : Int) ∧ X 51 k = (vu v k : Int)) ∧ ∀ i j, i < vn v → j < vn v → X 52 (8 * i + j) = vT v i j
def lf (X : Mm) (a b : Int) : Mm := st2 (st2 X 44 16 a) 44 17 b
theorem lf_16 (X : Mm) (a b : Int) : lf X a b 44 16 = a := rfl
theorem lf_17 (X : Mm) (a b : Int) : lf X a b 44 17 = b := rfl
theorem lf_o (X : Mm) (a b : Int) {c : Nat} (h : c ≠ 44) (j : Nat) : lf X a b c j = X c j := by simp [lf, st2, h]
theorem lf_k (X : Mm) (a b : Int) {j : Nat} (h : j ≠ 16) (h2 : j ≠ 17) : lf X a b 44 j = X 44 j := by simp [lf, st2, h, h2]
theorem lf_lf (X : Mm) (a b a2 b2 : Int) : st2 (st2 (lf X a b) 44 16 a2) 44 17 b2 = lf X a2 b2 := by
  funext c j
  simp only [lf, st2]
  grind
theorem lf_0 (X : Mm) : st2 (st2 X 44 16 0) 44 17 0 = lf X 0 0 := rfl
/-- the machine's numbers for a point -/
def pB (a b : Int) : Prop := (-536870912 ≤ a ∧ a ≤ 536870912) ∧ (-536870912 ≤ b ∧ b ≤ 536870912)
theorem pt_sgn {v : Mv} (hv : Vd v) {f : Nat → Nat} (hf : Perm f (vn v)) {a b : Int} (hb : pB a b) (hr0 : vr v = 0 → b = 0) {j : Nat} (hj : j ≤ vn v) : (sgn (vr v) (a - ps (vA v) f j) (b - ps (vB v) f j) < 0 ↔ val (vr v) a b < ps (vL v) f j) ∧ -1 ≤ sgn (vr v) (a - ps (vA v) f j) (b - ps (vB v) f j) ∧ sgn (vr v) (a - ps (vA v) f j) (b - ps (vB v) f j) ≤ 1 := by
  obtain ⟨p1, p2, p3⟩ := hv.psA hf hj
  unfold pB at hb
  have h := sgn_neg (r := vr v) (a := a - ps (vA v) f j) (b := b - ps (vB v) f j) hv.2.2.1 (fun e => by rw [hr0 e, p3 e]; rfl) (by omega) (by omega)
  rw [val_sub, ← vL_ps] at h
  omega
set_option maxRecDepth 100000 in
set_option maxHeartbeats 4000000 in
theorem ct_X8_spanAt {l : Launch} {g : Geo} {X : Mm} {K : AV → Mm → Prop} {v : Mv} {a b : Int} {f : Nat → Nat} {o : Nat} (hX : MvM X v) (hv : Vd v) (hf : Perm f (vn v)) (ho9 : kd o = 9) (ho8 : ln o = 8) (ho44 : o ≠ 44) (ho : ∀ j, j < vn v → X o j = (f j : Int)) (hb : pB a b) (hr0 : vr v = 0 → b = 0) (hon : onL v a b) (hk : K (vI (f (sidx v f (val (vr v) a b)) : Int)) (lf X (ps (vA v) f (sidx v f (val (vr v) a b))) (ps (vB v) f (sidx v f (val (vr v) a b))))) : Ct l g mX8_spanAt [vR 44, vR o, vJ a, vJ b] X K := by
  refine enter (by decide) (Nat.le_of_ble_eq_true rfl) (fun κ => ?_)
  have hn8 := hv.2.1
  have hrt := hv.2.2.1
  have hb2 := hb
  unfold pB at hb2
  obtain ⟨x1, x2, x3, x4⟩ := hX
  have hsp := sidx_spec hon.1 (by rw [hv.tot hf]; exact hon.2)
  have loop : ∀ i : Nat, i ≤ vn v → sidx v f (val (vr v) a b) = srch (fun j => decide (val (vr v) a b < ps (vL v) f (j + 1))) i (vn v) → G l g mX8_spanAt κ K 13 [(0, vR 44), (1, vR o), (2, vJ a), (4, vJ b), (6, vI (i : Int))] [] (lf X (ps (vA v) f i) (ps (vB v) f i)) := by
    refine upTo (vn v) ?_
    intro i hi ih hs
    have z5 : lf X (ps (vA v) f i) (ps (vB v) f i) 44 5 = (vn v : Int) := x1
    have z0 : lf X (ps (vA v) f i) (ps (vB v) f i) 44 0 = vr v := x2
    refine g_iload rfl dX8_spanAt_13 ?_
    refine g_aload_n rfl dX8_spanAt_15 ?_
    refine gf_X8_94 rfl (by first | rfl | assumption) dX8_spanAt_16 ?_
    refine g_icmp_ge (t := 105) dX8_spanAt_19 (by decide) (by first | omega | (simp [st2]; done) | (simp [st2]; omega)) (by first | omega | (simp [st2]; done) | (simp [st2]; omega)) (fun b19 => ?_) (fun b19 => ?_)
    · refine g_iconst dX8_spanAt_105 ?_
      refine g_ireturn rfl dX8_spanAt_106 ?_
      exfalso
      rw [srch_end (i := i) (by omega)] at hs
      omega
    · have hfi := hf.1 i (by omega)
      have q1 := x3 (f i) hfi
      have q2 := hv.2.2.2.1 (f i) hfi
      have q3 := hv.psA hf (j := i) (by omega)
      have q4 := hv.psA hf (j := i + 1) (by omega)
      have zo : lf X (ps (vA v) f i) (ps (vB v) f i) o i = (f i : Int) := by rw [lf_o _ _ _ ho44]; exact ho i (by omega)
      have zA : lf X (ps (vA v) f i) (ps (vB v) f i) 48 (f i) = vA v (f i) := q1.1
      have zB : lf X (ps (vA v) f i) (ps (vB v) f i) 49 (f i) = vB v (f i) := q1.2.1
      have eA : ps (vA v) f (i + 1) = ps (vA v) f i + vA v (f i) := rfl
      have eB : ps (vB v) f (i + 1) = ps (vB v) f i + vB v (f i) := rfl
      refine g_aload_n rfl dX8_spanAt_22 ?_
      refine g_iload rfl dX8_spanAt_23 ?_
      refine g_iald (n := 8) (_) (by first | rfl | assumption) (by first | rfl | assumption) rfl (by first | omega | (simp [st2]; done) | (simp [st2]; omega)) (by first | omega | (simp [st2]; done) | (simp [st2]; omega)) dX8_spanAt_25 ?_
      rw [zo]
      refine g_istore (by decide) dX8_spanAt_26 ?_
      refine g_aload_n rfl dX8_spanAt_28 ?_
      refine g_lload_n rfl dX8_spanAt_29 ?_
      refine g_aload_n rfl dX8_spanAt_30 ?_
      refine gf_X8_128 rfl (by first | rfl | assumption) dX8_spanAt_31 ?_
      refine g_lsub dX8_spanAt_34 ?_
      refine g_aload_n rfl dX8_spanAt_35 ?_
      refine gf_X8_19 (c2 := 48) rfl rfl (by first | rfl | assumption) dX8_spanAt_36 ?_
      refine g_iload rfl dX8_spanAt_39 ?_
      refine g_lald (n := 8) (f i) (by first | rfl | assumption) (by first | rfl | assumption) (by omega) (by first | omega | (simp [st2]; done) | (simp [st2]; omega)) (by first | omega | (simp [st2]; done) | (simp [st2]; omega)) dX8_spanAt_41 ?_
      refine g_lsub dX8_spanAt_42 ?_
      refine g_lload rfl dX8_spanAt_43 ?_
      refine g_aload_n rfl dX8_spanAt_45 ?_
      refine gf_X8_132 rfl (by first | rfl | assumption) dX8_spanAt_46 ?_
      refine g_lsub dX8_spanAt_49 ?_
      refine g_aload_n rfl dX8_spanAt_50 ?_
      refine gf_X8_23 (c2 := 49) rfl rfl (by first | rfl | assumption) dX8_spanAt_51 ?_
      refine g_iload rfl dX8_spanAt_54 ?_
      refine g_lald (n := 8) (f i) (by first | rfl | assumption) (by first | rfl | assumption) (by omega) (by first | omega | (simp [st2]; done) | (simp [st2]; omega)) (by first | omega | (simp [st2]; done) | (simp [st2]; omega)) dX8_spanAt_56 ?_
      refine g_lsub dX8_spanAt_57 ?_
      rw [lf_16, lf_17, zA, zB, show a - ps (vA v) f i - vA v (f i) = a - ps (vA v) f (i + 1) by omega, show b - ps (vB v) f i - vB v (f i) = b - ps (vB v) f (i + 1) by omega]
      refine g_cv2 (M2 := mX8_signOf) (ci := 8) dX8_spanAt_58 ml_RX8_116 kX8_signOf (by decide) (by first | rfl | assumption) (by decide) rfl (by unfold Rm; decide) (Nat.le_of_ble_eq_true rfl) (ct_X8_signOf (by rw [z0]; exact hrt) (by omega) (by omega) ?_)
      rw [z0]
      have hsg := pt_sgn hv hf hb hr0 (j := i + 1) (by omega)
      refine g_if_ge (t := 67) dX8_spanAt_61 (by decide) (by first | omega | (simp [st2]; done) | (simp [st2]; omega)) (fun b61 => ?_) (fun b61 => ?_)
      · have hp : ¬ (fun j => decide (val (vr v) a b < ps (vL v) f (j + 1))) i = true := by
          simp only [decide_eq_true_eq]
          omega
        rw [srch_miss (p := fun j => decide (val (vr v) a b < ps (vL v) f (j + 1))) (by omega) hp] at hs
        refine g_aload_n rfl dX8_spanAt_67 ?_
        refine g_dup rfl dX8_spanAt_68 ?_
        refine gf_X8_128 rfl (by first | rfl | assumption) dX8_spanAt_69 ?_
        refine g_aload_n rfl dX8_spanAt_72 ?_
        refine gf_X8_19 (c2 := 48) rfl rfl (by first | rfl | assumption) dX8_spanAt_73 ?_
        refine g_iload rfl dX8_spanAt_76 ?_
        refine g_lald (n := 8) (f i) (by first | rfl | assumption) (by first | rfl | assumption) (by omega) (by first | omega | (simp [st2]; done) | (simp [st2]; omega)) (by first | omega | (simp [st2]; done) | (simp [st2]; omega)) dX8_spanAt_78 ?_
        refine g_ladd dX8_spanAt_79 ?_
        refine pf_X8_128 rfl (by first | rfl | assumption) dX8_spanAt_80 ?_
        refine g_aload_n rfl dX8_spanAt_83 ?_
        refine g_dup rfl dX8_spanAt_84 ?_
        refine gf_X8_132 rfl (by first | rfl | assumption) dX8_spanAt_85 ?_
        refine g_aload_n rfl dX8_spanAt_88 ?_
        refine gf_X8_23 (c2 := 49) rfl rfl (by first | rfl | assumption) dX8_spanAt_89 ?_
        refine g_iload rfl dX8_spanAt_92 ?_
        refine g_lald (n := 8) (f i) (by first | rfl | assumption) (by first | rfl | assumption) (by omega) (by first | omega | (simp [st2]; done) | (simp [st2]; omega)) (by first | omega | (simp [st2]; done) | (simp [st2]; omega)) dX8_spanAt_94 ?_
        refine g_ladd dX8_spanAt_95 ?_
        refine pf_X8_132 rfl (by first | rfl | assumption) dX8_spanAt_96 ?_
        refine g_iinc rfl (by decide) dX8_spanAt_99 ?_
        refine g_goto (t := 13) dX8_spanAt_102 (by decide) ?_
        refine g_mem (X2 := lf X (ps (vA v) f (i + 1)) (ps (vB v) f (i + 1))) ?_ ?_
        · rw [eA, eB, ← zA, ← zB]
          exact lf_lf _ _ _ _ _
        · refine g_subl [(0, vR 44), (1, vR o), (2, vJ a), (4, vJ b), (6, vI ((i + 1 : Nat) : Int))] rfl ?_
          exact ih (i + 1) (by omega) (by omega) hs
      · refine g_iload rfl dX8_spanAt_64 ?_
        refine g_ireturn rfl dX8_spanAt_66 ?_
        have hp : (fun j => decide (val (vr v) a b < ps (vL v) f (j + 1))) i = true := by
          simp only [decide_eq_true_eq]
          omega
        rw [srch_hit (p := fun j => decide (val (vr v) a b < ps (vL v) f (j + 1))) (by omega) hp] at hs
        rw [hs] at hk
        exact hk
  refine g_aload_n rfl dX8_spanAt_0 ?_
  refine g_lconst rfl dX8_spanAt_1 ?_
  refine pf_X8_128 rfl (by first | rfl | assumption) dX8_spanAt_2 ?_
  refine g_aload_n rfl dX8_spanAt_5 ?_
  refine g_lconst rfl dX8_spanAt_6 ?_
  refine pf_X8_132 rfl (by first | rfl | assumption) dX8_spanAt_7 ?_
  refine g_iconst dX8_spanAt_10 ?_
  refine g_istore (by decide) dX8_spanAt_11 ?_
  refine g_subl [(0, vR 44), (1, vR o), (2, vJ a), (4, vJ b), (6, vI ((0 : Nat) : Int))] rfl ?_
  exact loop 0 (by omega) rfl
set_option maxRecDepth 100000 in
set_option maxHeartbeats 4000000 in
theorem ct_X8_begins {l : Launch} {g : Geo} {X : Mm} {K : AV → Mm → Prop} {v : Mv} {f : Nat → Nat} {o k : Nat} (hX : MvM X v) (hv : Vd v) (hf : Perm f (vn v)) (ho9 : kd o = 9) (ho8 : ln o = 8) (ho44 : o ≠ 44) (ho : ∀ j, j < vn v → X o j = (f j : Int)) (hkn : k < vn v) (hk : K (vI 0) (lf X (ps (vA v) f (posI f k (vn v))) (ps (vB v) f (posI f k (vn v))))) : Ct l g mX8_begins [vR 44, vR o, vI (k : Int)] X K := by
  refine enter (by decide) (Nat.le_of_ble_eq_true rfl) (fun κ => ?_)
  have hn8 := hv.2.1
  obtain ⟨x1, x2, x3, x4⟩ := hX
  have hsp := posI_spec hf hkn
  have loop : ∀ i : Nat, i ≤ vn v → posI f k (vn v) = srch (fun j => f j == k) i (vn v) → G l g mX8_begins κ K 12 [(0, vR 44), (1, vR o), (2, vI (k : Int)), (3, vI (i : Int))] [] (lf X (ps (vA v) f i) (ps (vB v) f i)) := by
    refine upTo (vn v) ?_
    intro i hi ih hs
    have hin : i < vn v := by
      rcases Nat.lt_or_ge i (vn v) with z | z
      · exact z
      · rw [srch_end z] at hs
        omega
    have hfi := hf.1 i (by omega)
    have q1 := x3 (f i) hfi
    have zo : lf X (ps (vA v) f i) (ps (vB v) f i) o i = (f i : Int) := by rw [lf_o _ _ _ ho44]; exact ho i (by omega)
    have zA : lf X (ps (vA v) f i) (ps (vB v) f i) 48 (f i) = vA v (f i) := q1.1
    have zB : lf X (ps (vA v) f i) (ps (vB v) f i) 49 (f i) = vB v (f i) := q1.2.1
    have eA : ps (vA v) f (i + 1) = ps (vA v) f i + vA v (f i) := rfl
    have eB : ps (vB v) f (i + 1) = ps (vB v) f i + vB v (f i) := rfl
    refine g_aload_n rfl dX8_begins_12 ?_
    refine g_iload_n rfl dX8_begins_13 ?_
    refine g_iald (n := 8) (_) (by first | rfl | assumption) (by first | rfl | assumption) rfl (by first | omega | (simp [st2]; done) | (simp [st2]; omega)) (by first | omega | (simp [st2]; done) | (simp [st2]; omega)) dX8_begins_14 ?_
    refine g_iload_n rfl dX8_begins_15 ?_
    refine g_icmp_eq (t := 59) dX8_begins_16 (by decide) (by first | omega | (simp [st2]; done) | (simp [st2]; omega)) (by first | omega | (simp [st2]; done) | (simp [st2]; omega)) (fun b16 => ?_) (fun b16 => ?_)
    · refine g_return rfl dX8_begins_59 ?_
      have hp : (fun j => f j == k) i = true := by
        simp only [beq_iff_eq]
        omega
      rw [srch_hit (p := fun j => f j == k) (by omega) hp] at hs
      rw [hs] at hk
      exact hk
    · have hp : ¬ (fun j => f j == k) i = true := by
        simp only [beq_iff_eq]
        omega
      rw [srch_miss (p := fun j => f j == k) (by omega) hp] at hs
      have zo2 : ∀ w, st2 (lf X (ps (vA v) f i) (ps (vB v) f i)) 44 16 w o i = (f i : Int) := by
        intro w
        rw [st2_ne _ _ _ ho44]
        exact zo
      refine g_aload_n rfl dX8_begins_19 ?_
      refine g_dup rfl dX8_begins_20 ?_
      refine gf_X8_128 rfl (by first | rfl | assumption) dX8_begins_21 ?_
      refine g_aload_n rfl dX8_begins_24 ?_
      refine gf_X8_19 (c2 := 48) rfl rfl (by first | rfl | assumption) dX8_begins_25 ?_
      refine g_aload_n rfl dX8_begins_28 ?_
      refine g_iload_n rfl dX8_begins_29 ?_
      refine g_iald (n := 8) (_) (by first | rfl | assumption) (by first | rfl | assumption) rfl (by first | omega | (simp [st2]; done) | (simp [st2]; omega)) (by first | omega | (simp [st2]; done) | (simp [st2]; omega)) dX8_begins_30 ?_
      rw [zo]
      refine g_lald (n := 8) (f i) (by first | rfl | assumption) (by first | rfl | assumption) (by omega) (by first | omega | (simp [st2]; done) | (simp [st2]; omega)) (by first | omega | (simp [st2]; done) | (simp [st2]; omega)) dX8_begins_31 ?_
      refine g_ladd dX8_begins_32 ?_
      refine pf_X8_128 rfl (by first | rfl | assumption) dX8_begins_33 ?_
      refine g_aload_n rfl dX8_begins_36 ?_
      refine g_dup rfl dX8_begins_37 ?_
      refine gf_X8_132 rfl (by first | rfl | assumption) dX8_begins_38 ?_
      refine g_aload_n rfl dX8_begins_41 ?_
      refine gf_X8_23 (c2 := 49) rfl rfl (by first | rfl | assumption) dX8_begins_42 ?_
      refine g_aload_n rfl dX8_begins_45 ?_
      refine g_iload_n rfl dX8_begins_46 ?_
      refine g_iald (n := 8) (_) (by first | rfl | assumption) (by first | rfl | assumption) rfl (by first | omega | (simp [st2]; done) | (simp [st2]; omega)) (by first | omega | (simp [st2]; done) | (simp [st2]; omega)) dX8_begins_47 ?_
      rw [zo2]
      refine g_lald (n := 8) (f i) (by first | rfl | assumption) (by first | rfl | assumption) (by omega) (by first | omega | (simp [st2]; done) | (simp [st2]; omega)) (by first | omega | (simp [st2]; done) | (simp [st2]; omega)) dX8_begins_48 ?_
      refine g_ladd dX8_begins_49 ?_
      refine pf_X8_132 rfl (by first | rfl | assumption) dX8_begins_50 ?_
      refine g_iinc rfl (by decide) dX8_begins_53 ?_
      refine g_goto (t := 12) dX8_begins_56 (by decide) ?_
      refine g_mem (X2 := lf X (ps (vA v) f (i + 1)) (ps (vB v) f (i + 1))) ?_ ?_
      · rw [eA, eB, ← zA, ← zB]
        exact lf_lf _ _ _ _ _
      · refine g_subl [(0, vR 44), (1, vR o), (2, vI (k : Int)), (3, vI ((i + 1 : Nat) : Int))] rfl ?_
        exact ih (i + 1) (by omega) (by omega) hs
  refine g_aload_n rfl dX8_begins_0 ?_
  refine g_lconst rfl dX8_begins_1 ?_
  refine pf_X8_128 rfl (by first | rfl | assumption) dX8_begins_2 ?_
  refine g_aload_n rfl dX8_begins_5 ?_
  refine g_lconst rfl dX8_begins_6 ?_
  refine pf_X8_132 rfl (by first | rfl | assumption) dX8_begins_7 ?_
  refine g_iconst dX8_begins_10 ?_
  refine g_istore_n (by decide) dX8_begins_11 ?_
  refine g_subl [(0, vR 44), (1, vR o), (2, vI (k : Int)), (3, vI ((0 : Nat) : Int))] rfl ?_
  exact loop 0 (by omega) rfl
theorem MvM.tA {X : Mm} {v : Mv} (hX : MvM X v) : ps (fun k => if (0 : Int) = 0 then X 48 k else X 49 k) id (vn v) = ps (vA v) (fun k => k) (vn v) := ps_cong (fun k hk => (hX.2.2.1 k hk).1)
theorem MvM.tB {X : Mm} {v : Mv} (hX : MvM X v) : ps (fun k => if (1 : Int) = 0 then X 48 k else X 49 k) id (vn v) = ps (vB v) (fun k => k) (vn v) := ps_cong (fun k hk => (hX.2.2.1 k hk).2.1)
theorem ct_X8_isOnLine {l : Launch} {g : Geo} {X : Mm} {K : AV → Mm → Prop} {v : Mv} {a b : Int} (hX : MvM X v) (hv : Vd v) (hb : pB a b) (hr0 : vr v = 0 → b = 0) (h1 : onL v a b → K (vI 1) X) (h0 : ¬ onL v a b → K (vI 0) X) : Ct l g mX8_isOnLine [vR 44, vJ a, vJ b] X K := by
  refine enter (by decide) (Nat.le_of_ble_eq_true rfl) (fun κ => ?_)
  have hn8 := hv.2.1
  have hrt := hv.2.2.1
  have hb2 := hb
  unfold pB at hb2
  have x1 := hX.1
  have x2 := hX.2.1
  have hid := Perm.id (vn v)
  have s0 := sgn_neg (r := vr v) (a := a) (b := b) hrt hr0 (by omega) (by omega)
  have s1 := pt_sgn hv hid hb hr0 (j := vn v) (Nat.le_refl _)
  have q4 := hv.psA hid (j := vn v) (Nat.le_refl _)
  rw [hv.tot hid] at s1
  unfold onL at h0 h1
  refine g_aload_n rfl dX8_isOnLine_0 ?_
  refine g_lload_n rfl dX8_isOnLine_1 ?_
  refine g_lload_n rfl dX8_isOnLine_2 ?_
  refine g_cv2 (M2 := mX8_signOf) (ci := 8) dX8_isOnLine_3 ml_RX8_116 kX8_signOf (by decide) (by first | rfl | assumption) (by decide) rfl (by unfold Rm; decide) (Nat.le_of_ble_eq_true rfl) (ct_X8_signOf (by rw [x2]; exact hrt) (by omega) (by omega) ?_)
  rw [x2]
  refine g_if_lt (t := 34) dX8_isOnLine_6 (by decide) (by first | omega | (simp [st2]; done) | (simp [st2]; omega)) (fun b6 => ?_) (fun b6 => ?_)
  · refine g_iconst dX8_isOnLine_34 ?_
    refine g_zreturn rfl (by omega) dX8_isOnLine_35 ?_
    first | exact h1 (by omega) | exact h0 (by omega)
  · refine g_aload_n rfl dX8_isOnLine_9 ?_
    refine g_lload_n rfl dX8_isOnLine_10 ?_
    refine g_aload_n rfl dX8_isOnLine_11 ?_
    refine g_iconst dX8_isOnLine_12 ?_
    refine g_cv1 (M2 := mX8_total) (ci := 8) dX8_isOnLine_13 ml_RX8_124 kX8_total (by decide) (by first | rfl | assumption) (by decide) rfl (by unfold Rm; decide) (Nat.le_of_ble_eq_true rfl) (ct_X8_total (by omega) x1 hn8 ?_)
    rw [hX.tA]
    refine g_lsub dX8_isOnLine_16 ?_
    refine g_lload_n rfl dX8_isOnLine_17 ?_
    refine g_aload_n rfl dX8_isOnLine_18 ?_
    refine g_iconst dX8_isOnLine_19 ?_
    refine g_cv1 (M2 := mX8_total) (ci := 8) dX8_isOnLine_20 ml_RX8_124 kX8_total (by decide) (by first | rfl | assumption) (by decide) rfl (by unfold Rm; decide) (Nat.le_of_ble_eq_true rfl) (ct_X8_total (by omega) x1 hn8 ?_)
    rw [hX.tB]
    refine g_lsub dX8_isOnLine_23 ?_
    refine g_cv2 (M2 := mX8_signOf) (ci := 8) dX8_isOnLine_24 ml_RX8_116 kX8_signOf (by decide) (by first | rfl | assumption) (by decide) rfl (by unfold Rm; decide) (Nat.le_of_ble_eq_true rfl) (ct_X8_signOf (by rw [x2]; exact hrt) (by omega) (by omega) ?_)
    rw [x2]
    refine g_if_ge (t := 34) dX8_isOnLine_27 (by decide) (by first | omega | (simp [st2]; done) | (simp [st2]; omega)) (fun b27 => ?_) (fun b27 => ?_)
    · refine g_iconst dX8_isOnLine_34 ?_
      refine g_zreturn rfl (by omega) dX8_isOnLine_35 ?_
      first | exact h1 (by omega) | exact h0 (by omega)
    · refine g_iconst dX8_isOnLine_30 ?_
      refine g_goto (t := 35) dX8_isOnLine_31 (by decide) ?_
      refine g_zreturn rfl (by omega) dX8_isOnLine_35 ?_
      first | exact h1 (by omega) | exact h0 (by omega)
