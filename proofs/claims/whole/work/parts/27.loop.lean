/-! LOOPS -/
theorem mul_bd {a b A B : Int} (ha : -A ≤ a ∧ a ≤ A) (hb : -B ≤ b ∧ b ≤ B) : -(A * B) ≤ a * b ∧ a * b ≤ A * B := by
  have h1 : (a * b).natAbs ≤ A.natAbs * B.natAbs := by
    rw [Int.natAbs_mul]
    exact Nat.mul_le_mul (by omega) (by omega)
  have h2 : A * B = ((A.natAbs * B.natAbs : Nat) : Int) := by
    rw [Int.natCast_mul, Int.natAbs_of_nonneg (by omega), Int.natAbs_of_nonneg (by omega)]
  rw [h2]
  omega
def pdA (w v : Mv) (k : Nat) : Int := vA w k * vA v 0 + vr v * vB w k * vB v 0
def pdB (w v : Mv) (k : Nat) : Int := vA w k * vB v 0 + vB w k * vA v 0
def shr (w v : Mv) (k : Nat) : Prop := pdA w v k = pdA v w k ∧ pdB w v k = pdB v w k
theorem pd_bd {w v : Mv} (hw : Vd w) (hv : Vd v) (hn : vn w = vn v) {k : Nat} (hk : k < vn v) : (-9223372036854775808 ≤ pdA w v k ∧ pdA w v k < 9223372036854775808) ∧ (-9223372036854775808 ≤ pdB w v k ∧ pdB w v k < 9223372036854775808) := by
  have q1 := hw.2.2.2.1 k (by omega)
  have q2 := hv.2.2.2.1 0 (by omega)
  have hr := hv.2.2.1
  have b1 := mul_bd (A := 16384) (B := 16384) q1.1 q2.1
  have b2 := mul_bd (A := 7) (B := 16384) (a := vr v) (b := vB w k) (by unfold isRoot at hr; omega) q1.2.1
  have b3 := mul_bd (A := 114688) (B := 16384) (a := vr v * vB w k) (b := vB v 0) (by omega) q2.2.1
  have b4 := mul_bd (A := 16384) (B := 16384) q1.1 q2.2.1
  have b5 := mul_bd (A := 16384) (B := 16384) q1.2.1 q2.1
  unfold pdA pdB
  omega
theorem shr_0 {w v : Mv} (hr : vr w = vr v) : shr w v 0 := by
  unfold shr pdA pdB
  rw [hr]
  constructor
  · rw [Int.mul_comm (vA w 0), Int.mul_assoc, Int.mul_comm (vB w 0), ← Int.mul_assoc]
  · rw [Int.mul_comm (vA w 0), Int.mul_comm (vB w 0), Int.add_comm]
def isLp (w v : Mv) : Prop := (∀ j, j < vn v → va w j = va v j ∧ vu w j = vu v j) ∧ ∀ k, k < vn v → shr w v k
noncomputable def lpN (v : Mv) : Nat → Nat → Mv → Nat
  | 0, _, _ => 0
  | d + 1, m, w => by
    classical
    exact if 0 ≤ stR w then (if isLp (stN w) v then m else lpN v d (m + 1) (stN w)) else 0
theorem lpN_0 {v w : Mv} {d m : Nat} (h : stR w < 0) : lpN v d m w = 0 := by
  cases d with
  | zero => rfl
  | succ d => rw [lpN, if_neg (by omega)]
theorem lpN_y {v w : Mv} {d m : Nat} (h : 0 ≤ stR w) (h2 : isLp (stN w) v) : lpN v (d + 1) m w = m := by
  rw [lpN, if_pos h, if_pos h2]
theorem lpN_n {v w : Mv} {d m : Nat} (h : 0 ≤ stR w) (h2 : ¬ isLp (stN w) v) : lpN v (d + 1) m w = lpN v d (m + 1) (stN w) := by
  rw [lpN, if_pos h, if_neg h2]
set_option maxRecDepth 100000 in
set_option maxHeartbeats 4000000 in
theorem ct_X3_copyFrom {l : Launch} {g : Geo} {X : Mm} {K : AV → Mm → Prop} {v : Mv} (hX : MvC X 5 v) (hn8 : vn v ≤ 8) (hk : ∀ X2, MvC X2 11 v → (∀ d j, (d < 11 ∨ 16 < d) → X2 d j = X d j) → K (vI 0) X2) : Ct l g mX3_copyFrom [vR 11, vR 5] X K := by
  refine enter (by decide) (Nat.le_of_ble_eq_true rfl) (fun κ => ?_)
  refine g_aload_n rfl dX3_copyFrom_0 ?_
  refine g_aload_n rfl dX3_copyFrom_1 ?_
  refine gf_X3_34 rfl (by first | rfl | assumption) dX3_copyFrom_2 ?_
  refine pf_X3_34 rfl (by first | rfl | assumption) dX3_copyFrom_5 ?_
  refine g_aload_n rfl dX3_copyFrom_8 ?_
  refine g_aload_n rfl dX3_copyFrom_9 ?_
  refine gf_X3_35 rfl (by first | rfl | assumption) dX3_copyFrom_10 ?_
  refine pf_X3_35 rfl (by first | rfl | assumption) dX3_copyFrom_13 ?_
  refine g_aload_n rfl dX3_copyFrom_16 ?_
  refine g_aload_n rfl dX3_copyFrom_17 ?_
  refine gf_X3_38 rfl (by first | rfl | assumption) dX3_copyFrom_18 ?_
  refine pf_X3_38 rfl (by first | rfl | assumption) dX3_copyFrom_21 ?_
  refine g_aload_n rfl dX3_copyFrom_24 ?_
  refine g_aload_n rfl dX3_copyFrom_25 ?_
  refine gf_X3_41 rfl (by first | rfl | assumption) dX3_copyFrom_26 ?_
  refine pf_X3_41 rfl (by first | rfl | assumption) dX3_copyFrom_29 ?_
  refine g_aload_n rfl dX3_copyFrom_32 ?_
  refine gf_X3_9 (c2 := 6) rfl rfl (by first | rfl | assumption) dX3_copyFrom_33 ?_
  refine g_iconst dX3_copyFrom_36 ?_
  refine g_aload_n rfl dX3_copyFrom_37 ?_
  refine gf_X3_9 (c2 := 12) rfl rfl (by first | rfl | assumption) dX3_copyFrom_38 ?_
  refine g_iconst dX3_copyFrom_41 ?_
  refine g_bipush (by decide) dX3_copyFrom_42 ?_
  refine g_copyi (8) rfl (by first | rfl | assumption) (by first | rfl | assumption) (by decide) (by decide) (by decide) ml_RX3_47 (by decide) (Nat.le_of_ble_eq_true rfl) dX3_copyFrom_44 ?_
  refine g_aload_n rfl dX3_copyFrom_47 ?_
  refine gf_X3_15 (c2 := 7) rfl rfl (by first | rfl | assumption) dX3_copyFrom_48 ?_
  refine g_iconst dX3_copyFrom_51 ?_
  refine g_aload_n rfl dX3_copyFrom_52 ?_
  refine gf_X3_15 (c2 := 13) rfl rfl (by first | rfl | assumption) dX3_copyFrom_53 ?_
  refine g_iconst dX3_copyFrom_56 ?_
  refine g_bipush (by decide) dX3_copyFrom_57 ?_
  refine g_copyi (8) rfl (by first | rfl | assumption) (by first | rfl | assumption) (by decide) (by decide) (by decide) ml_RX3_47 (by decide) (Nat.le_of_ble_eq_true rfl) dX3_copyFrom_59 ?_
  refine g_aload_n rfl dX3_copyFrom_62 ?_
  refine gf_X3_18 (c2 := 8) rfl rfl (by first | rfl | assumption) dX3_copyFrom_63 ?_
  refine g_iconst dX3_copyFrom_66 ?_
  refine g_aload_n rfl dX3_copyFrom_67 ?_
  refine gf_X3_18 (c2 := 14) rfl rfl (by first | rfl | assumption) dX3_copyFrom_68 ?_
  refine g_iconst dX3_copyFrom_71 ?_
  refine g_bipush (by decide) dX3_copyFrom_72 ?_
  refine g_copyi (8) rfl (by first | rfl | assumption) (by first | rfl | assumption) (by decide) (by decide) (by decide) ml_RX3_47 (by decide) (Nat.le_of_ble_eq_true rfl) dX3_copyFrom_74 ?_
  refine g_aload_n rfl dX3_copyFrom_77 ?_
  refine gf_X3_21 (c2 := 9) rfl rfl (by first | rfl | assumption) dX3_copyFrom_78 ?_
  refine g_iconst dX3_copyFrom_81 ?_
  refine g_aload_n rfl dX3_copyFrom_82 ?_
  refine gf_X3_21 (c2 := 15) rfl rfl (by first | rfl | assumption) dX3_copyFrom_83 ?_
  refine g_iconst dX3_copyFrom_86 ?_
  refine g_bipush (by decide) dX3_copyFrom_87 ?_
  refine g_copyi (8) rfl (by first | rfl | assumption) (by first | rfl | assumption) (by decide) (by decide) (by decide) ml_RX3_47 (by decide) (Nat.le_of_ble_eq_true rfl) dX3_copyFrom_89 ?_
  refine g_aload_n rfl dX3_copyFrom_92 ?_
  refine gf_X3_24 (c2 := 10) rfl rfl (by first | rfl | assumption) dX3_copyFrom_93 ?_
  refine g_iconst dX3_copyFrom_96 ?_
  refine g_aload_n rfl dX3_copyFrom_97 ?_
  refine gf_X3_24 (c2 := 16) rfl rfl (by first | rfl | assumption) dX3_copyFrom_98 ?_
  refine g_iconst dX3_copyFrom_101 ?_
  refine g_bipush (by decide) dX3_copyFrom_102 ?_
  refine g_copyl (64) rfl (by first | rfl | assumption) (by first | rfl | assumption) (by decide) (by decide) (by decide) ml_RX3_47 (by decide) (Nat.le_of_ble_eq_true rfl) dX3_copyFrom_104 ?_
  refine g_return rfl dX3_copyFrom_107 ?_
  obtain ⟨x1, x2, x3, x4⟩ := hX
  refine hk _ ⟨?_, ?_, fun k hk => ?_, fun i j hi hj => ?_⟩ (fun d j hd => ?_)
  · simp [st2, cpy]
    exact x1
  · simp [st2, cpy]
    exact x2
  · have z : k < 8 := by omega
    simp [st2, cpy, z]
    exact x3 k hk
  · have z : 8 * i + j < 64 := by omega
    simp [st2, cpy, z]
    exact x4 i j hi hj
  · have z0 : d ≠ 11 := by omega
    have z1 : d ≠ 12 := by omega
    have z2 : d ≠ 13 := by omega
    have z3 : d ≠ 14 := by omega
    have z4 : d ≠ 15 := by omega
    have z5 : d ≠ 16 := by omega
    simp [st2, cpy, z0, z1, z2, z3, z4, z5]
theorem ct_X3_hasOrdersOf {l : Launch} {g : Geo} {X : Mm} {K : AV → Mm → Prop} {v w : Mv} (hX : MvC X 5 v) (hW : MvC X 11 w) (hn : vn w = vn v) (hn8 : vn v ≤ 8) (ha : ∀ j, j < vn v → va v j < 8 ∧ vu v j < 8 ∧ va w j < 8 ∧ vu w j < 8) (h1 : (∀ j, j < vn v → va w j = va v j ∧ vu w j = vu v j) → K (vI 1) X) (h0 : ¬ (∀ j, j < vn v → va w j = va v j ∧ vu w j = vu v j) → K (vI 0) X) : Ct l g mX3_hasOrdersOf [vR 11, vR 5] X K := by
  refine enter (by decide) (Nat.le_of_ble_eq_true rfl) (fun κ => ?_)
  have x1 : X 11 0 = (vn v : Int) := by rw [← hn]; exact hW.1
  have loop : ∀ i, i ≤ vn v → (∀ j, j < i → va w j = va v j ∧ vu w j = vu v j) → G l g mX3_hasOrdersOf κ K 2 [(0, vR 11), (1, vR 5), (2, vI (i : Int))] [] X := by
    refine upTo (vn v) ?_
    intro i hi ih hlt
    refine g_iload_n rfl dX3_hasOrdersOf_2 ?_
    refine g_aload_n rfl dX3_hasOrdersOf_3 ?_
    refine gf_X3_34 rfl (by first | rfl | assumption) dX3_hasOrdersOf_4 ?_
    refine g_icmp_ge (t := 48) dX3_hasOrdersOf_7 (by decide) (by first | omega | (simp [st2]; done) | (simp [st2]; omega)) (by first | omega | (simp [st2]; done) | (simp [st2]; omega)) (fun b7 => ?_) (fun b7 => ?_)
    · refine g_iconst dX3_hasOrdersOf_48 ?_
      refine g_zreturn rfl (by omega) dX3_hasOrdersOf_49 ?_
      exact h1 (fun j hj => hlt j (by omega))
    · have e1 : X 8 i = (va v i : Int) := (hX.2.2.1 i (by omega)).2.2.1
      have e2 : X 9 i = (vu v i : Int) := (hX.2.2.1 i (by omega)).2.2.2
      have e3 : X 14 i = (va w i : Int) := (hW.2.2.1 i (by omega)).2.2.1
      have e4 : X 15 i = (vu w i : Int) := (hW.2.2.1 i (by omega)).2.2.2
      have e5 := ha i (by omega)
      refine g_aload_n rfl dX3_hasOrdersOf_10 ?_
      refine gf_X3_18 (c2 := 14) rfl rfl (by first | rfl | assumption) dX3_hasOrdersOf_11 ?_
      refine g_iload_n rfl dX3_hasOrdersOf_14 ?_
      refine g_iald (n := 8) (_) (by first | rfl | assumption) (by first | rfl | assumption) rfl (by first | omega | (simp [st2]; done) | (simp [st2]; omega)) (by first | omega | (simp [st2]; done) | (simp [st2]; omega)) dX3_hasOrdersOf_15 ?_
      refine g_aload_n rfl dX3_hasOrdersOf_16 ?_
      refine gf_X3_18 (c2 := 8) rfl rfl (by first | rfl | assumption) dX3_hasOrdersOf_17 ?_
      refine g_iload_n rfl dX3_hasOrdersOf_20 ?_
      refine g_iald (n := 8) (_) (by first | rfl | assumption) (by first | rfl | assumption) rfl (by first | omega | (simp [st2]; done) | (simp [st2]; omega)) (by first | omega | (simp [st2]; done) | (simp [st2]; omega)) dX3_hasOrdersOf_21 ?_
      refine g_icmp_ne (t := 40) dX3_hasOrdersOf_22 (by decide) (by first | omega | (simp [st2]; done) | (simp [st2]; omega)) (by first | omega | (simp [st2]; done) | (simp [st2]; omega)) (fun b22 => ?_) (fun b22 => ?_)
      · refine g_iconst dX3_hasOrdersOf_40 ?_
        refine g_zreturn rfl (by omega) dX3_hasOrdersOf_41 ?_
        exact h0 (fun q => by have := q i (by omega); omega)
      · refine g_aload_n rfl dX3_hasOrdersOf_25 ?_
        refine gf_X3_21 (c2 := 15) rfl rfl (by first | rfl | assumption) dX3_hasOrdersOf_26 ?_
        refine g_iload_n rfl dX3_hasOrdersOf_29 ?_
        refine g_iald (n := 8) (_) (by first | rfl | assumption) (by first | rfl | assumption) rfl (by first | omega | (simp [st2]; done) | (simp [st2]; omega)) (by first | omega | (simp [st2]; done) | (simp [st2]; omega)) dX3_hasOrdersOf_30 ?_
        refine g_aload_n rfl dX3_hasOrdersOf_31 ?_
        refine gf_X3_21 (c2 := 9) rfl rfl (by first | rfl | assumption) dX3_hasOrdersOf_32 ?_
        refine g_iload_n rfl dX3_hasOrdersOf_35 ?_
        refine g_iald (n := 8) (_) (by first | rfl | assumption) (by first | rfl | assumption) rfl (by first | omega | (simp [st2]; done) | (simp [st2]; omega)) (by first | omega | (simp [st2]; done) | (simp [st2]; omega)) dX3_hasOrdersOf_36 ?_
        refine g_icmp_eq (t := 42) dX3_hasOrdersOf_37 (by decide) (by first | omega | (simp [st2]; done) | (simp [st2]; omega)) (by first | omega | (simp [st2]; done) | (simp [st2]; omega)) (fun b37 => ?_) (fun b37 => ?_)
        · refine g_iinc rfl (by decide) dX3_hasOrdersOf_42 ?_
          refine g_goto (t := 2) dX3_hasOrdersOf_45 (by decide) ?_
          refine g_subl [(0, vR 11), (1, vR 5), (2, vI ((i + 1 : Nat) : Int))] rfl ?_
          refine ih (i + 1) (by omega) (by omega) (fun j hj => ?_)
          rcases Nat.lt_or_ge j i with z | z
          · exact hlt j z
          · rw [show j = i by omega]; omega
        · refine g_iconst dX3_hasOrdersOf_40 ?_
          refine g_zreturn rfl (by omega) dX3_hasOrdersOf_41 ?_
          exact h0 (fun q => by have := q i (by omega); omega)
  refine g_iconst dX3_hasOrdersOf_0 ?_
  refine g_istore_n (by decide) dX3_hasOrdersOf_1 ?_
  refine g_subl [(0, vR 11), (1, vR 5), (2, vI ((0 : Nat) : Int))] rfl ?_
  exact loop 0 (by omega) (fun j hj => absurd hj (by omega))
theorem ct_X3_productA_11 {l : Launch} {g : Geo} {X : Mm} {K : AV → Mm → Prop} {v w : Mv} {k : Nat} (hX : MvC X 5 v) (hW : MvC X 11 w) (hv : Vd v) (hw : Vd w) (hr : vr w = vr v) (hk : k < vn w) (hkk : K (vJ (pdA w v k)) X) : Ct l g mX3_productA [vR 11, vI (k : Int), vR 5] X K := by
  refine enter (by decide) (Nat.le_of_ble_eq_true rfl) (fun κ => ?_)
  have hn8 := hw.2.1
  have hn2 := hv.1
  have e1 : X 12 k = vA w k := (hW.2.2.1 k hk).1
  have e2 : X 13 k = vB w k := (hW.2.2.1 k hk).2.1
  have e3 : X 6 0 = vA v 0 := (hX.2.2.1 0 (by omega)).1
  have e4 : X 7 0 = vB v 0 := (hX.2.2.1 0 (by omega)).2.1
  have e5 : X 11 1 = vr v := by rw [← hr]; exact hW.2.1
  have q1 := hw.2.2.2.1 k hk
  have q2 := hv.2.2.2.1 0 (by omega)
  have q3 := hv.2.2.1
  unfold isRoot at q3
  refine g_aload_n rfl dX3_productA_0 ?_
  refine gf_X3_9 (c2 := 12) rfl rfl (by first | rfl | assumption) dX3_productA_1 ?_
  refine g_iload_n rfl dX3_productA_4 ?_
  refine g_iald (n := 8) (_) (by first | rfl | assumption) (by first | rfl | assumption) rfl (by first | omega | (simp [st2]; done) | (simp [st2]; omega)) (by first | omega | (simp [st2]; done) | (simp [st2]; omega)) dX3_productA_5 ?_
  refine g_i2l (by first | omega | (simp [st2]; done) | (simp [st2]; omega)) dX3_productA_6 ?_
  refine g_aload_n rfl dX3_productA_7 ?_
  refine gf_X3_9 (c2 := 6) rfl rfl (by first | rfl | assumption) dX3_productA_8 ?_
  refine g_iconst dX3_productA_11 ?_
  refine g_iald (n := 8) (0) (by first | rfl | assumption) (by first | rfl | assumption) (by omega) (by first | omega | (simp [st2]; done) | (simp [st2]; omega)) (by first | omega | (simp [st2]; done) | (simp [st2]; omega)) dX3_productA_12 ?_
  refine g_i2l (by first | omega | (simp [st2]; done) | (simp [st2]; omega)) dX3_productA_13 ?_
  refine g_lmul dX3_productA_14 ?_
  refine g_aload_n rfl dX3_productA_15 ?_
  refine gf_X3_35 rfl (by first | rfl | assumption) dX3_productA_16 ?_
  refine g_i2l (by first | omega | (simp [st2]; done) | (simp [st2]; omega)) dX3_productA_19 ?_
  refine g_aload_n rfl dX3_productA_20 ?_
  refine gf_X3_15 (c2 := 13) rfl rfl (by first | rfl | assumption) dX3_productA_21 ?_
  refine g_iload_n rfl dX3_productA_24 ?_
  refine g_iald (n := 8) (_) (by first | rfl | assumption) (by first | rfl | assumption) rfl (by first | omega | (simp [st2]; done) | (simp [st2]; omega)) (by first | omega | (simp [st2]; done) | (simp [st2]; omega)) dX3_productA_25 ?_
  refine g_i2l (by first | omega | (simp [st2]; done) | (simp [st2]; omega)) dX3_productA_26 ?_
  refine g_lmul dX3_productA_27 ?_
  refine g_aload_n rfl dX3_productA_28 ?_
  refine gf_X3_15 (c2 := 7) rfl rfl (by first | rfl | assumption) dX3_productA_29 ?_
  refine g_iconst dX3_productA_32 ?_
  refine g_iald (n := 8) (0) (by first | rfl | assumption) (by first | rfl | assumption) (by omega) (by first | omega | (simp [st2]; done) | (simp [st2]; omega)) (by first | omega | (simp [st2]; done) | (simp [st2]; omega)) dX3_productA_33 ?_
  refine g_i2l (by first | omega | (simp [st2]; done) | (simp [st2]; omega)) dX3_productA_34 ?_
  refine g_lmul dX3_productA_35 ?_
  refine g_ladd dX3_productA_36 ?_
  refine g_lreturn rfl dX3_productA_37 ?_
  rw [e1, e2, e3, e4, e5]
  exact hkk
theorem ct_X3_productB_11 {l : Launch} {g : Geo} {X : Mm} {K : AV → Mm → Prop} {v w : Mv} {k : Nat} (hX : MvC X 5 v) (hW : MvC X 11 w) (hv : Vd v) (hw : Vd w) (hk : k < vn w) (hkk : K (vJ (pdB w v k)) X) : Ct l g mX3_productB [vR 11, vI (k : Int), vR 5] X K := by
  refine enter (by decide) (Nat.le_of_ble_eq_true rfl) (fun κ => ?_)
  have hn8 := hw.2.1
  have hn2 := hv.1
  have e1 : X 12 k = vA w k := (hW.2.2.1 k hk).1
  have e2 : X 13 k = vB w k := (hW.2.2.1 k hk).2.1
  have e3 : X 6 0 = vA v 0 := (hX.2.2.1 0 (by omega)).1
  have e4 : X 7 0 = vB v 0 := (hX.2.2.1 0 (by omega)).2.1
  have q1 := hw.2.2.2.1 k hk
  have q2 := hv.2.2.2.1 0 (by omega)
  refine g_aload_n rfl dX3_productB_0 ?_
  refine gf_X3_9 (c2 := 12) rfl rfl (by first | rfl | assumption) dX3_productB_1 ?_
  refine g_iload_n rfl dX3_productB_4 ?_
  refine g_iald (n := 8) (_) (by first | rfl | assumption) (by first | rfl | assumption) rfl (by first | omega | (simp [st2]; done) | (simp [st2]; omega)) (by first | omega | (simp [st2]; done) | (simp [st2]; omega)) dX3_productB_5 ?_
  refine g_i2l (by first | omega | (simp [st2]; done) | (simp [st2]; omega)) dX3_productB_6 ?_
  refine g_aload_n rfl dX3_productB_7 ?_
  refine gf_X3_15 (c2 := 7) rfl rfl (by first | rfl | assumption) dX3_productB_8 ?_
  refine g_iconst dX3_productB_11 ?_
  refine g_iald (n := 8) (0) (by first | rfl | assumption) (by first | rfl | assumption) (by omega) (by first | omega | (simp [st2]; done) | (simp [st2]; omega)) (by first | omega | (simp [st2]; done) | (simp [st2]; omega)) dX3_productB_12 ?_
  refine g_i2l (by first | omega | (simp [st2]; done) | (simp [st2]; omega)) dX3_productB_13 ?_
  refine g_lmul dX3_productB_14 ?_
  refine g_aload_n rfl dX3_productB_15 ?_
  refine gf_X3_15 (c2 := 13) rfl rfl (by first | rfl | assumption) dX3_productB_16 ?_
  refine g_iload_n rfl dX3_productB_19 ?_
  refine g_iald (n := 8) (_) (by first | rfl | assumption) (by first | rfl | assumption) rfl (by first | omega | (simp [st2]; done) | (simp [st2]; omega)) (by first | omega | (simp [st2]; done) | (simp [st2]; omega)) dX3_productB_20 ?_
  refine g_i2l (by first | omega | (simp [st2]; done) | (simp [st2]; omega)) dX3_productB_21 ?_
  refine g_aload_n rfl dX3_productB_22 ?_
  refine gf_X3_9 (c2 := 6) rfl rfl (by first | rfl | assumption) dX3_productB_23 ?_
  refine g_iconst dX3_productB_26 ?_
  refine g_iald (n := 8) (0) (by first | rfl | assumption) (by first | rfl | assumption) (by omega) (by first | omega | (simp [st2]; done) | (simp [st2]; omega)) (by first | omega | (simp [st2]; done) | (simp [st2]; omega)) dX3_productB_27 ?_
  refine g_i2l (by first | omega | (simp [st2]; done) | (simp [st2]; omega)) dX3_productB_28 ?_
  refine g_lmul dX3_productB_29 ?_
  refine g_ladd dX3_productB_30 ?_
  refine g_lreturn rfl dX3_productB_31 ?_
  rw [e1, e2, e3, e4]
  exact hkk
theorem ct_X3_productA_5 {l : Launch} {g : Geo} {X : Mm} {K : AV → Mm → Prop} {v w : Mv} {k : Nat} (hX : MvC X 11 v) (hW : MvC X 5 w) (hv : Vd v) (hw : Vd w) (hr : vr w = vr v) (hk : k < vn w) (hkk : K (vJ (pdA w v k)) X) : Ct l g mX3_productA [vR 5, vI (k : Int), vR 11] X K := by
  refine enter (by decide) (Nat.le_of_ble_eq_true rfl) (fun κ => ?_)
  have hn8 := hw.2.1
  have hn2 := hv.1
  have e1 : X 6 k = vA w k := (hW.2.2.1 k hk).1
  have e2 : X 7 k = vB w k := (hW.2.2.1 k hk).2.1
  have e3 : X 12 0 = vA v 0 := (hX.2.2.1 0 (by omega)).1
  have e4 : X 13 0 = vB v 0 := (hX.2.2.1 0 (by omega)).2.1
  have e5 : X 5 1 = vr v := by rw [← hr]; exact hW.2.1
  have q1 := hw.2.2.2.1 k hk
  have q2 := hv.2.2.2.1 0 (by omega)
  have q3 := hv.2.2.1
  unfold isRoot at q3
  refine g_aload_n rfl dX3_productA_0 ?_
  refine gf_X3_9 (c2 := 6) rfl rfl (by first | rfl | assumption) dX3_productA_1 ?_
  refine g_iload_n rfl dX3_productA_4 ?_
  refine g_iald (n := 8) (_) (by first | rfl | assumption) (by first | rfl | assumption) rfl (by first | omega | (simp [st2]; done) | (simp [st2]; omega)) (by first | omega | (simp [st2]; done) | (simp [st2]; omega)) dX3_productA_5 ?_
  refine g_i2l (by first | omega | (simp [st2]; done) | (simp [st2]; omega)) dX3_productA_6 ?_
  refine g_aload_n rfl dX3_productA_7 ?_
  refine gf_X3_9 (c2 := 12) rfl rfl (by first | rfl | assumption) dX3_productA_8 ?_
  refine g_iconst dX3_productA_11 ?_
  refine g_iald (n := 8) (0) (by first | rfl | assumption) (by first | rfl | assumption) (by omega) (by first | omega | (simp [st2]; done) | (simp [st2]; omega)) (by first | omega | (simp [st2]; done) | (simp [st2]; omega)) dX3_productA_12 ?_
  refine g_i2l (by first | omega | (simp [st2]; done) | (simp [st2]; omega)) dX3_productA_13 ?_
  refine g_lmul dX3_productA_14 ?_
  refine g_aload_n rfl dX3_productA_15 ?_
  refine gf_X3_35 rfl (by first | rfl | assumption) dX3_productA_16 ?_
  refine g_i2l (by first | omega | (simp [st2]; done) | (simp [st2]; omega)) dX3_productA_19 ?_
  refine g_aload_n rfl dX3_productA_20 ?_
  refine gf_X3_15 (c2 := 7) rfl rfl (by first | rfl | assumption) dX3_productA_21 ?_
  refine g_iload_n rfl dX3_productA_24 ?_
  refine g_iald (n := 8) (_) (by first | rfl | assumption) (by first | rfl | assumption) rfl (by first | omega | (simp [st2]; done) | (simp [st2]; omega)) (by first | omega | (simp [st2]; done) | (simp [st2]; omega)) dX3_productA_25 ?_
  refine g_i2l (by first | omega | (simp [st2]; done) | (simp [st2]; omega)) dX3_productA_26 ?_
  refine g_lmul dX3_productA_27 ?_
  refine g_aload_n rfl dX3_productA_28 ?_
  refine gf_X3_15 (c2 := 13) rfl rfl (by first | rfl | assumption) dX3_productA_29 ?_
  refine g_iconst dX3_productA_32 ?_
  refine g_iald (n := 8) (0) (by first | rfl | assumption) (by first | rfl | assumption) (by omega) (by first | omega | (simp [st2]; done) | (simp [st2]; omega)) (by first | omega | (simp [st2]; done) | (simp [st2]; omega)) dX3_productA_33 ?_
  refine g_i2l (by first | omega | (simp [st2]; done) | (simp [st2]; omega)) dX3_productA_34 ?_
  refine g_lmul dX3_productA_35 ?_
  refine g_ladd dX3_productA_36 ?_
  refine g_lreturn rfl dX3_productA_37 ?_
  rw [e1, e2, e3, e4, e5]
  exact hkk
theorem ct_X3_productB_5 {l : Launch} {g : Geo} {X : Mm} {K : AV → Mm → Prop} {v w : Mv} {k : Nat} (hX : MvC X 11 v) (hW : MvC X 5 w) (hv : Vd v) (hw : Vd w) (hk : k < vn w) (hkk : K (vJ (pdB w v k)) X) : Ct l g mX3_productB [vR 5, vI (k : Int), vR 11] X K := by
  refine enter (by decide) (Nat.le_of_ble_eq_true rfl) (fun κ => ?_)
  have hn8 := hw.2.1
  have hn2 := hv.1
  have e1 : X 6 k = vA w k := (hW.2.2.1 k hk).1
  have e2 : X 7 k = vB w k := (hW.2.2.1 k hk).2.1
  have e3 : X 12 0 = vA v 0 := (hX.2.2.1 0 (by omega)).1
  have e4 : X 13 0 = vB v 0 := (hX.2.2.1 0 (by omega)).2.1
  have q1 := hw.2.2.2.1 k hk
  have q2 := hv.2.2.2.1 0 (by omega)
  refine g_aload_n rfl dX3_productB_0 ?_
  refine gf_X3_9 (c2 := 6) rfl rfl (by first | rfl | assumption) dX3_productB_1 ?_
  refine g_iload_n rfl dX3_productB_4 ?_
  refine g_iald (n := 8) (_) (by first | rfl | assumption) (by first | rfl | assumption) rfl (by first | omega | (simp [st2]; done) | (simp [st2]; omega)) (by first | omega | (simp [st2]; done) | (simp [st2]; omega)) dX3_productB_5 ?_
  refine g_i2l (by first | omega | (simp [st2]; done) | (simp [st2]; omega)) dX3_productB_6 ?_
  refine g_aload_n rfl dX3_productB_7 ?_
  refine gf_X3_15 (c2 := 13) rfl rfl (by first | rfl | assumption) dX3_productB_8 ?_
  refine g_iconst dX3_productB_11 ?_
  refine g_iald (n := 8) (0) (by first | rfl | assumption) (by first | rfl | assumption) (by omega) (by first | omega | (simp [st2]; done) | (simp [st2]; omega)) (by first | omega | (simp [st2]; done) | (simp [st2]; omega)) dX3_productB_12 ?_
  refine g_i2l (by first | omega | (simp [st2]; done) | (simp [st2]; omega)) dX3_productB_13 ?_
  refine g_lmul dX3_productB_14 ?_
  refine g_aload_n rfl dX3_productB_15 ?_
  refine gf_X3_15 (c2 := 7) rfl rfl (by first | rfl | assumption) dX3_productB_16 ?_
  refine g_iload_n rfl dX3_productB_19 ?_
  refine g_iald (n := 8) (_) (by first | rfl | assumption) (by first | rfl | assumption) rfl (by first | omega | (simp [st2]; done) | (simp [st2]; omega)) (by first | omega | (simp [st2]; done) | (simp [st2]; omega)) dX3_productB_20 ?_
  refine g_i2l (by first | omega | (simp [st2]; done) | (simp [st2]; omega)) dX3_productB_21 ?_
  refine g_aload_n rfl dX3_productB_22 ?_
  refine gf_X3_9 (c2 := 12) rfl rfl (by first | rfl | assumption) dX3_productB_23 ?_
  refine g_iconst dX3_productB_26 ?_
  refine g_iald (n := 8) (0) (by first | rfl | assumption) (by first | rfl | assumption) (by omega) (by first | omega | (simp [st2]; done) | (simp [st2]; omega)) (by first | omega | (simp [st2]; done) | (simp [st2]; omega)) dX3_productB_27 ?_
  refine g_i2l (by first | omega | (simp [st2]; done) | (simp [st2]; omega)) dX3_productB_28 ?_
  refine g_lmul dX3_productB_29 ?_
  refine g_ladd dX3_productB_30 ?_
  refine g_lreturn rfl dX3_productB_31 ?_
  rw [e1, e2, e3, e4]
  exact hkk
set_option maxRecDepth 100000 in
set_option maxHeartbeats 4000000 in
theorem ct_X3_hasSharesOf {l : Launch} {g : Geo} {X : Mm} {K : AV → Mm → Prop} {v w : Mv} (hX : MvC X 5 v) (hW : MvC X 11 w) (hv : Vd v) (hw : Vd w) (hn : vn w = vn v) (hr : vr w = vr v) (h1 : (∀ k, k < vn v → shr w v k) → K (vI 1) X) (h0 : ¬ (∀ k, k < vn v → shr w v k) → K (vI 0) X) : Ct l g mX3_hasSharesOf [vR 11, vR 5] X K := by
  refine enter (by decide) (Nat.le_of_ble_eq_true rfl) (fun κ => ?_)
  have x1 : X 11 0 = (vn v : Int) := by rw [← hn]; exact hW.1
  have hn8 := hv.2.1
  have hn2 := hv.1
  have loop : ∀ i, i ≤ vn v → 1 ≤ i → (∀ k, k < i → shr w v k) → G l g mX3_hasSharesOf κ K 2 [(0, vR 11), (1, vR 5), (2, vI (i : Int))] [] X := by
    refine upTo (vn v) ?_
    intro i hi ih h1i hlt
    refine g_iload_n rfl dX3_hasSharesOf_2 ?_
    refine g_aload_n rfl dX3_hasSharesOf_3 ?_
    refine gf_X3_34 rfl (by first | rfl | assumption) dX3_hasSharesOf_4 ?_
    refine g_icmp_ge (t := 50) dX3_hasSharesOf_7 (by decide) (by first | omega | (simp [st2]; done) | (simp [st2]; omega)) (by first | omega | (simp [st2]; done) | (simp [st2]; omega)) (fun b7 => ?_) (fun b7 => ?_)
    · refine g_iconst dX3_hasSharesOf_50 ?_
      refine g_zreturn rfl (by omega) dX3_hasSharesOf_51 ?_
      exact h1 (fun j hj => hlt j (by omega))
    · have b1 := pd_bd hw hv hn (k := i) (by omega)
      have b2 := pd_bd hv hw hn.symm (k := i) (by omega)
      refine g_aload_n rfl dX3_hasSharesOf_10 ?_
      refine g_iload_n rfl dX3_hasSharesOf_11 ?_
      refine g_aload_n rfl dX3_hasSharesOf_12 ?_
      refine g_cv2 (M2 := mX3_productA) (ci := 3) dX3_hasSharesOf_13 ml_RX3_69 kX3_productA (by decide) (by first | rfl | assumption) (by decide) rfl (by unfold Rm; decide) (Nat.le_of_ble_eq_true rfl) (ct_X3_productA_11 hX hW hv hw hr (by omega) ?_)
      refine g_aload_n rfl dX3_hasSharesOf_16 ?_
      refine g_iload_n rfl dX3_hasSharesOf_17 ?_
      refine g_aload_n rfl dX3_hasSharesOf_18 ?_
      refine g_cv2 (M2 := mX3_productA) (ci := 3) dX3_hasSharesOf_19 ml_RX3_69 kX3_productA (by decide) (by first | rfl | assumption) (by decide) rfl (by unfold Rm; decide) (Nat.le_of_ble_eq_true rfl) (ct_X3_productA_5 hW hX hw hv hr.symm (by omega) ?_)
      refine g_lne (t := 42) dX3_hasSharesOf_22 dX3_hasSharesOf_23 (by decide) (by first | omega | (simp [st2]; done) | (simp [st2]; omega)) (by first | omega | (simp [st2]; done) | (simp [st2]; omega)) (fun b22 => ?_) (fun b22 => ?_)
      · refine g_iconst dX3_hasSharesOf_42 ?_
        refine g_zreturn rfl (by omega) dX3_hasSharesOf_43 ?_
        exact h0 (fun q => by have z := q i (by omega); unfold shr at z; omega)
      · refine g_aload_n rfl dX3_hasSharesOf_26 ?_
        refine g_iload_n rfl dX3_hasSharesOf_27 ?_
        refine g_aload_n rfl dX3_hasSharesOf_28 ?_
        refine g_cv2 (M2 := mX3_productB) (ci := 3) dX3_hasSharesOf_29 ml_RX3_73 kX3_productB (by decide) (by first | rfl | assumption) (by decide) rfl (by unfold Rm; decide) (Nat.le_of_ble_eq_true rfl) (ct_X3_productB_11 hX hW hv hw (by omega) ?_)
        refine g_aload_n rfl dX3_hasSharesOf_32 ?_
        refine g_iload_n rfl dX3_hasSharesOf_33 ?_
        refine g_aload_n rfl dX3_hasSharesOf_34 ?_
        refine g_cv2 (M2 := mX3_productB) (ci := 3) dX3_hasSharesOf_35 ml_RX3_73 kX3_productB (by decide) (by first | rfl | assumption) (by decide) rfl (by unfold Rm; decide) (Nat.le_of_ble_eq_true rfl) (ct_X3_productB_5 hW hX hw hv (by omega) ?_)
        refine g_leq (t := 44) dX3_hasSharesOf_38 dX3_hasSharesOf_39 (by decide) (by first | omega | (simp [st2]; done) | (simp [st2]; omega)) (by first | omega | (simp [st2]; done) | (simp [st2]; omega)) (fun b38 => ?_) (fun b38 => ?_)
        · refine g_iinc rfl (by decide) dX3_hasSharesOf_44 ?_
          refine g_goto (t := 2) dX3_hasSharesOf_47 (by decide) ?_
          refine g_subl [(0, vR 11), (1, vR 5), (2, vI ((i + 1 : Nat) : Int))] rfl ?_
          refine ih (i + 1) (by omega) (by omega) (by omega) (fun j hj => ?_)
          rcases Nat.lt_or_ge j i with z | z
          · exact hlt j z
          · rw [show j = i by omega]
            exact ⟨by omega, by omega⟩
        · refine g_iconst dX3_hasSharesOf_42 ?_
          refine g_zreturn rfl (by omega) dX3_hasSharesOf_43 ?_
          exact h0 (fun q => by have z := q i (by omega); unfold shr at z; omega)
  refine g_iconst dX3_hasSharesOf_0 ?_
  refine g_istore_n (by decide) dX3_hasSharesOf_1 ?_
  refine g_subl [(0, vR 11), (1, vR 5), (2, vI ((1 : Nat) : Int))] rfl ?_
  refine loop 1 (by omega) (by omega) (fun j hj => ?_)
  rw [show j = 0 by omega]
  exact shr_0 hr
