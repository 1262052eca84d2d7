def LayM (X : Mm) (m : Nat) (X2 : Mm) : Prop := (∀ c j, c ≠ 44 → c ≠ 48 → c ≠ 49 → c ≠ 50 → c ≠ 51 → c ≠ 52 → X2 c j = X c j) ∧ (∀ j, j ≠ 5 → j ≠ 11 → j ≠ 12 → j ≠ 13 → X2 44 j = X 44 j) ∧ X2 44 5 = (m : Int) ∧ X2 44 11 = 0 ∧ X2 44 12 = 0 ∧ X2 44 13 = 0 ∧ (∀ k, k < m → X2 48 k = X 45 k ∧ X2 49 k = X 46 k ∧ X2 50 k = (k : Int) ∧ X2 51 k = X 47 k) ∧ ∀ i j, i < m → j < m → X2 52 (8 * i + j) = if i = j then 1 else 0
def LayMi (X : Mm) (m k : Nat) (X2 : Mm) : Prop := (∀ c j, c ≠ 44 → c ≠ 48 → c ≠ 49 → c ≠ 50 → c ≠ 51 → c ≠ 52 → X2 c j = X c j) ∧ (∀ j, j ≠ 5 → X2 44 j = X 44 j) ∧ X2 44 5 = (m : Int) ∧ (∀ i, i < k → X2 48 i = X 45 i ∧ X2 49 i = X 46 i ∧ X2 50 i = (i : Int) ∧ X2 51 i = X 47 i) ∧ ∀ i j, i < k → j < m → X2 52 (8 * i + j) = if i = j then 1 else 0
def LayMj (X : Mm) (m k q : Nat) (X2 : Mm) : Prop := (∀ c j, c ≠ 44 → c ≠ 48 → c ≠ 49 → c ≠ 50 → c ≠ 51 → c ≠ 52 → X2 c j = X c j) ∧ (∀ j, j ≠ 5 → X2 44 j = X 44 j) ∧ X2 44 5 = (m : Int) ∧ (∀ i, i < k + 1 → X2 48 i = X 45 i ∧ X2 49 i = X 46 i ∧ X2 50 i = (i : Int) ∧ X2 51 i = X 47 i) ∧ (∀ i j, i < k → j < m → X2 52 (8 * i + j) = if i = j then 1 else 0) ∧ ∀ j, j < q → X2 52 (8 * k + j) = if k = j then 1 else 0
theorem layMj_0 {X X2 : Mm} {m k : Nat} (h : LayMi X m k X2) : LayMj X m k 0 (st2 (st2 (st2 (st2 X2 48 k (X2 45 k)) 49 k (X2 46 k)) 50 k (k : Int)) 51 k (X2 47 k)) := by
  obtain ⟨e1, e2, e3, e4, e5⟩ := h
  refine ⟨?_, ?_, ?_, ?_, ?_, ?_⟩
  · intro c j a1 a2 a3 a4 a5 a6
    simp only [st2, if_neg a2, if_neg a3, if_neg a4, if_neg a5]
    exact e1 c j a1 a2 a3 a4 a5 a6
  · intro j hj
    simp only [st2]
    exact e2 j hj
  · exact e3
  · intro i hi
    rcases Nat.lt_or_ge i k with z | z
    · have q : i ≠ k := by omega
      simp [st2, q]
      exact e4 i z
    · obtain rfl : i = k := by omega
      simp [st2]
      exact ⟨e1 45 i (by decide) (by decide) (by decide) (by decide) (by decide) (by decide), e1 46 i (by decide) (by decide) (by decide) (by decide) (by decide) (by decide), e1 47 i (by decide) (by decide) (by decide) (by decide) (by decide) (by decide)⟩
  · intro i j hi hj
    simp only [st2]
    exact e5 i j hi hj
  · intro j hj
    omega
theorem layMj_s {X X2 : Mm} {m k q : Nat} {v : Int} (h : LayMj X m k q X2) (hk : k < 8) (hm : m ≤ 8) (hq : q < m) (hv : v = if k = q then 1 else 0) : LayMj X m k (q + 1) (st2 X2 52 (8 * k + q) v) := by
  obtain ⟨e1, e2, e3, e4, e5, e6⟩ := h
  refine ⟨?_, ?_, ?_, ?_, ?_, ?_⟩
  · intro c j a1 a2 a3 a4 a5 a6
    simp only [st2, if_neg a6]
    exact e1 c j a1 a2 a3 a4 a5 a6
  · exact e2
  · exact e3
  · exact e4
  · intro i j hi hj
    have z : 8 * i + j ≠ 8 * k + q := by omega
    simp only [st2, if_true, if_neg z]
    exact e5 i j hi hj
  · intro j hj
    rcases Nat.lt_or_ge j q with z | z
    · have z2 : 8 * k + j ≠ 8 * k + q := by omega
      simp only [st2, if_true, if_neg z2]
      exact e6 j z
    · obtain rfl : j = q := by omega
      simp only [st2, if_true]
      exact hv
theorem layM_e {X X2 : Mm} {m : Nat} (h : LayMi X m m X2) : LayM X m (st2 (st2 (st2 X2 44 11 0) 44 12 0) 44 13 0) := by
  obtain ⟨e1, e2, e3, e4, e5⟩ := h
  refine ⟨?_, ?_, e3, rfl, rfl, rfl, e4, e5⟩
  · intro c j a1 a2 a3 a4 a5 a6
    simp only [st2, if_neg a1]
    exact e1 c j a1 a2 a3 a4 a5 a6
  · intro j b1 b2 b3 b4
    simp only [st2, if_true, if_neg b2, if_neg b3, if_neg b4]
    exact e2 j b1
set_option maxRecDepth 100000 in
set_option maxHeartbeats 4000000 in
theorem ct_X8_lay {l : Launch} {g : Geo} {X : Mm} {K : AV → Mm → Prop} {m : Nat} (hm : X 44 3 = (m : Int)) (hm8 : m ≤ 8) (hA : ∀ k, k < 8 → -16384 ≤ X 45 k ∧ X 45 k ≤ 16384) (hB : ∀ k, k < 8 → -16384 ≤ X 46 k ∧ X 46 k ≤ 16384) (h0 : m = 0 → K (vI (-1)) X) (h1 : 0 < m → (∃ k, k < m ∧ X 45 k = 0 ∧ X 46 k = 0) → K (vI (-2)) X) (h2 : 0 < m → (∀ k, k < m → ¬ (X 45 k = 0 ∧ X 46 k = 0)) → ∀ X2, LayM X m X2 → K (vI (m : Int)) X2) : Ct l g mX8_lay [vR 44] X K := by
  refine enter (by decide) (Nat.le_of_ble_eq_true rfl) (fun κ => ?_)
  have loop3 : ∀ k, k < m → (∀ X3, LayMi X m (k + 1) X3 → G l g mX8_lay κ K 146 [(0, vR 44), (1, vI (k : Int))] [] X3) → ∀ q, q ≤ m → ∀ X2, LayMj X m k q X2 → G l g mX8_lay κ K 111 [(0, vR 44), (1, vI (k : Int)), (2, vI (q : Int))] [] X2 := by
    intro k hkm go
    refine upTo m ?_
    intro q hq ih X2 hX2
    have h5 : X2 44 5 = (m : Int) := hX2.2.2.1
    refine g_iload_n rfl dX8_lay_111 ?_
    refine g_aload_n rfl dX8_lay_112 ?_
    refine gf_X8_94 rfl (by first | rfl | assumption) dX8_lay_113 ?_
    refine g_icmp_ge (t := 146) dX8_lay_116 (by decide) (by first | omega | (simp [st2]; done) | (simp [st2]; omega)) (by first | omega | (simp [st2]; done) | (simp [st2]; omega)) (fun b116 => ?_) (fun b116 => ?_)
    · refine g_subl [(0, vR 44), (1, vI (k : Int))] rfl ?_
      refine go _ ?_
      clear ih go
      obtain ⟨e1, e2, e3, e4, e5, e6⟩ := hX2
      refine ⟨e1, e2, e3, e4, ?_⟩
      intro i j hi hj
      rcases Nat.lt_or_ge i k with z | z
      · exact e5 i j z hj
      · rw [show i = k by omega]
        exact e6 j (by omega)
    · refine g_aload_n rfl dX8_lay_119 ?_
      refine gf_X8_32 (c2 := 52) rfl rfl (by first | rfl | assumption) dX8_lay_120 ?_
      refine g_bipush (by decide) dX8_lay_123 ?_
      refine g_iload_n rfl dX8_lay_125 ?_
      refine g_imul dX8_lay_126 ?_
      refine g_iload_n rfl dX8_lay_127 ?_
      refine g_iadd dX8_lay_128 ?_
      refine g_iload_n rfl dX8_lay_129 ?_
      refine g_iload_n rfl dX8_lay_130 ?_
      refine g_icmp_ne (t := 138) dX8_lay_131 (by decide) (by first | omega | (simp [st2]; done) | (simp [st2]; omega)) (by first | omega | (simp [st2]; done) | (simp [st2]; omega)) (fun b131 => ?_) (fun b131 => ?_)
      · refine g_lconst rfl dX8_lay_138 ?_
        refine g_last (n := 64) (8 * k + q) (by first | rfl | assumption) (by first | rfl | assumption) (by omega) (by first | omega | (simp [st2]; done) | (simp [st2]; omega)) (by first | omega | (simp [st2]; done) | (simp [st2]; omega)) dX8_lay_139 ?_
        refine g_iinc rfl (by decide) dX8_lay_140 ?_
        refine g_goto (t := 111) dX8_lay_143 (by decide) ?_
        refine g_subl [(0, vR 44), (1, vI (k : Int)), (2, vI ((q + 1 : Nat) : Int))] rfl ?_
        exact ih (q + 1) (by omega) (by omega) _ (layMj_s hX2 (by omega) hm8 (by omega) (by split <;> omega))
      · refine g_lconst rfl dX8_lay_134 ?_
        refine g_goto (t := 139) dX8_lay_135 (by decide) ?_
        refine g_last (n := 64) (8 * k + q) (by first | rfl | assumption) (by first | rfl | assumption) (by omega) (by first | omega | (simp [st2]; done) | (simp [st2]; omega)) (by first | omega | (simp [st2]; done) | (simp [st2]; omega)) dX8_lay_139 ?_
        refine g_iinc rfl (by decide) dX8_lay_140 ?_
        refine g_goto (t := 111) dX8_lay_143 (by decide) ?_
        refine g_subl [(0, vR 44), (1, vI (k : Int)), (2, vI ((q + 1 : Nat) : Int))] rfl ?_
        exact ih (q + 1) (by omega) (by omega) _ (layMj_s hX2 (by omega) hm8 (by omega) (by split <;> omega))
  have loop2 : 0 < m → (∀ k, k < m → ¬ (X 45 k = 0 ∧ X 46 k = 0)) → ∀ k, k ≤ m → ∀ X2, LayMi X m k X2 → G l g mX8_lay κ K 56 [(0, vR 44), (1, vI (k : Int))] [] X2 := by
    intro hpos hall
    refine upTo m ?_
    intro k hkm ih X2 hX2
    have h5 : X2 44 5 = (m : Int) := hX2.2.2.1
    refine g_iload_n rfl dX8_lay_56 ?_
    refine g_aload_n rfl dX8_lay_57 ?_
    refine gf_X8_94 rfl (by first | rfl | assumption) dX8_lay_58 ?_
    refine g_icmp_ge (t := 152) dX8_lay_61 (by decide) (by first | omega | (simp [st2]; done) | (simp [st2]; omega)) (by first | omega | (simp [st2]; done) | (simp [st2]; omega)) (fun b61 => ?_) (fun b61 => ?_)
    · refine g_aload_n rfl dX8_lay_152 ?_
      refine g_iconst dX8_lay_153 ?_
      refine pf_X8_101 rfl (by first | rfl | assumption) dX8_lay_154 ?_
      refine g_aload_n rfl dX8_lay_157 ?_
      refine g_iconst dX8_lay_158 ?_
      refine pf_X8_104 rfl (by first | rfl | assumption) dX8_lay_159 ?_
      refine g_aload_n rfl dX8_lay_162 ?_
      refine g_iconst dX8_lay_163 ?_
      refine pf_X8_97 (by omega) rfl (by first | rfl | assumption) dX8_lay_164 ?_
      refine g_aload_n rfl dX8_lay_167 ?_
      refine gf_X8_94 rfl (by first | rfl | assumption) dX8_lay_168 ?_
      refine g_ireturn rfl dX8_lay_171 ?_
      obtain rfl : m = k := by omega
      exact kE (h2 hpos hall _ (layM_e hX2)) h5.symm
    · have a1 := hA k (by omega)
      have a2 := hB k (by omega)
      have a3 := hX2.1 45 k (by decide) (by decide) (by decide) (by decide) (by decide) (by decide)
      have a4 := hX2.1 46 k (by decide) (by decide) (by decide) (by decide) (by decide) (by decide)
      refine g_aload_n rfl dX8_lay_64 ?_
      refine gf_X8_19 (c2 := 48) rfl rfl (by first | rfl | assumption) dX8_lay_65 ?_
      refine g_iload_n rfl dX8_lay_68 ?_
      refine g_aload_n rfl dX8_lay_69 ?_
      refine gf_X8_7 (c2 := 45) rfl rfl (by first | rfl | assumption) dX8_lay_70 ?_
      refine g_iload_n rfl dX8_lay_73 ?_
      refine g_iald (n := 8) (_) (by first | rfl | assumption) (by first | rfl | assumption) rfl (by first | omega | (simp [st2]; done) | (simp [st2]; omega)) (by first | omega | (simp [st2]; done) | (simp [st2]; omega)) dX8_lay_74 ?_
      refine g_i2l (by first | omega | (simp [st2]; done) | (simp [st2]; omega)) dX8_lay_75 ?_
      refine g_last (n := 8) (_) (by first | rfl | assumption) (by first | rfl | assumption) rfl (by first | omega | (simp [st2]; done) | (simp [st2]; omega)) (by first | omega | (simp [st2]; done) | (simp [st2]; omega)) dX8_lay_76 ?_
      refine g_aload_n rfl dX8_lay_77 ?_
      refine gf_X8_23 (c2 := 49) rfl rfl (by first | rfl | assumption) dX8_lay_78 ?_
      refine g_iload_n rfl dX8_lay_81 ?_
      refine g_aload_n rfl dX8_lay_82 ?_
      refine gf_X8_13 (c2 := 46) rfl rfl (by first | rfl | assumption) dX8_lay_83 ?_
      refine g_iload_n rfl dX8_lay_86 ?_
      refine g_iald (n := 8) (_) (by first | rfl | assumption) (by first | rfl | assumption) rfl (by first | omega | (simp [st2]; done) | (simp [st2]; omega)) (by first | omega | (simp [st2]; done) | (simp [st2]; omega)) dX8_lay_87 ?_
      refine g_i2l (by first | omega | (simp [st2]; done) | (simp [st2]; omega)) dX8_lay_88 ?_
      refine g_last (n := 8) (_) (by first | rfl | assumption) (by first | rfl | assumption) rfl (by first | omega | (simp [st2]; done) | (simp [st2]; omega)) (by first | omega | (simp [st2]; done) | (simp [st2]; omega)) dX8_lay_89 ?_
      refine g_aload_n rfl dX8_lay_90 ?_
      refine gf_X8_26 (c2 := 50) rfl rfl (by first | rfl | assumption) dX8_lay_91 ?_
      refine g_iload_n rfl dX8_lay_94 ?_
      refine g_iload_n rfl dX8_lay_95 ?_
      refine g_iast (n := 8) (_) (by first | rfl | assumption) (by first | rfl | assumption) rfl (by first | omega | (simp [st2]; done) | (simp [st2]; omega)) (by first | omega | (simp [st2]; done) | (simp [st2]; omega)) dX8_lay_96 ?_
      refine g_aload_n rfl dX8_lay_97 ?_
      refine gf_X8_29 (c2 := 51) rfl rfl (by first | rfl | assumption) dX8_lay_98 ?_
      refine g_iload_n rfl dX8_lay_101 ?_
      refine g_aload_n rfl dX8_lay_102 ?_
      refine gf_X8_16 (c2 := 47) rfl rfl (by first | rfl | assumption) dX8_lay_103 ?_
      refine g_iload_n rfl dX8_lay_106 ?_
      refine g_iald (n := 8) (_) (by first | rfl | assumption) (by first | rfl | assumption) rfl (by first | omega | (simp [st2]; done) | (simp [st2]; omega)) (by first | omega | (simp [st2]; done) | (simp [st2]; omega)) dX8_lay_107 ?_
      refine g_iast (n := 8) (_) (by first | rfl | assumption) (by first | rfl | assumption) rfl (by first | omega | (simp [st2]; done) | (simp [st2]; omega)) (by first | omega | (simp [st2]; done) | (simp [st2]; omega)) dX8_lay_108 ?_
      refine g_iconst dX8_lay_109 ?_
      refine g_istore_n (by decide) dX8_lay_110 ?_
      refine g_subl [(0, vR 44), (1, vI (k : Int)), (2, vI ((0 : Nat) : Int))] rfl ?_
      refine loop3 k (by omega) (fun X3 hX3 => ?_) 0 (by omega) _ (layMj_0 hX2)
      refine g_iinc rfl (by decide) dX8_lay_146 ?_
      refine g_goto (t := 56) dX8_lay_149 (by decide) ?_
      refine g_subl [(0, vR 44), (1, vI ((k + 1 : Nat) : Int))] rfl ?_
      exact ih (k + 1) (by omega) (by omega) _ hX3
  have loop1 : 0 < m → ∀ k, k ≤ m → (∀ i, i < k → ¬ (X 45 i = 0 ∧ X 46 i = 0)) → G l g mX8_lay κ K 11 [(0, vR 44), (1, vI (k : Int))] [] X := by
    intro hpos
    refine upTo m ?_
    intro k hkm ih hlt
    have a1 := fun q => hA k q
    have a2 := fun q => hB k q
    refine g_iload_n rfl dX8_lay_11 ?_
    refine g_aload_n rfl dX8_lay_12 ?_
    refine gf_X8_91 rfl (by first | rfl | assumption) dX8_lay_13 ?_
    refine g_icmp_ge (t := 46) dX8_lay_16 (by decide) (by first | omega | (simp [st2]; done) | (simp [st2]; omega)) (by first | omega | (simp [st2]; done) | (simp [st2]; omega)) (fun b16 => ?_) (fun b16 => ?_)
    · refine g_aload_n rfl dX8_lay_46 ?_
      refine g_aload_n rfl dX8_lay_47 ?_
      refine gf_X8_91 rfl (by first | rfl | assumption) dX8_lay_48 ?_
      refine pf_X8_94 rfl (by first | rfl | assumption) dX8_lay_51 ?_
      refine g_iconst dX8_lay_54 ?_
      refine g_istore_n (by decide) dX8_lay_55 ?_
      refine g_subl [(0, vR 44), (1, vI ((0 : Nat) : Int))] rfl ?_
      obtain rfl : m = k := by omega
      refine loop2 hpos hlt 0 (by omega) _ ⟨?_, ?_, hm, fun i hi => absurd hi (by omega), fun i j hi => absurd hi (by omega)⟩
      · intro c j a1 a2 a3 a4 a5 a6
        simp only [st2, if_neg a1]
      · intro j hj
        simp only [st2, if_true, if_neg hj]
    · have a3 := a1 (by omega)
      have a4 := a2 (by omega)
      refine g_aload_n rfl dX8_lay_19 ?_
      refine gf_X8_7 (c2 := 45) rfl rfl (by first | rfl | assumption) dX8_lay_20 ?_
      refine g_iload_n rfl dX8_lay_23 ?_
      refine g_iald (n := 8) (_) (by first | rfl | assumption) (by first | rfl | assumption) rfl (by first | omega | (simp [st2]; done) | (simp [st2]; omega)) (by first | omega | (simp [st2]; done) | (simp [st2]; omega)) dX8_lay_24 ?_
      refine g_if_ne (t := 40) dX8_lay_25 (by decide) (by first | omega | (simp [st2]; done) | (simp [st2]; omega)) (fun b25 => ?_) (fun b25 => ?_)
      · refine g_iinc rfl (by decide) dX8_lay_40 ?_
        refine g_goto (t := 11) dX8_lay_43 (by decide) ?_
        refine g_subl [(0, vR 44), (1, vI ((k + 1 : Nat) : Int))] rfl ?_
        refine ih (k + 1) (by omega) (by omega) ?_
        intro i hi
        rcases Nat.lt_or_ge i k with z | z
        · exact hlt i z
        · rw [show i = k by omega]; omega
      · refine g_aload_n rfl dX8_lay_28 ?_
        refine gf_X8_13 (c2 := 46) rfl rfl (by first | rfl | assumption) dX8_lay_29 ?_
        refine g_iload_n rfl dX8_lay_32 ?_
        refine g_iald (n := 8) (_) (by first | rfl | assumption) (by first | rfl | assumption) rfl (by first | omega | (simp [st2]; done) | (simp [st2]; omega)) (by first | omega | (simp [st2]; done) | (simp [st2]; omega)) dX8_lay_33 ?_
        refine g_if_ne (t := 40) dX8_lay_34 (by decide) (by first | omega | (simp [st2]; done) | (simp [st2]; omega)) (fun b34 => ?_) (fun b34 => ?_)
        · refine g_iinc rfl (by decide) dX8_lay_40 ?_
          refine g_goto (t := 11) dX8_lay_43 (by decide) ?_
          refine g_subl [(0, vR 44), (1, vI ((k + 1 : Nat) : Int))] rfl ?_
          refine ih (k + 1) (by omega) (by omega) ?_
          intro i hi
          rcases Nat.lt_or_ge i k with z | z
          · exact hlt i z
          · rw [show i = k by omega]; omega
        · refine g_bipush (by decide) dX8_lay_37 ?_
          refine g_ireturn rfl dX8_lay_39 ?_
          exact h1 hpos ⟨k, by omega, by omega, by omega⟩
  refine g_aload_n rfl dX8_lay_0 ?_
  refine gf_X8_91 rfl (by first | rfl | assumption) dX8_lay_1 ?_
  refine g_if_ne (t := 9) dX8_lay_4 (by decide) (by first | omega | (simp [st2]; done) | (simp [st2]; omega)) (fun b4 => ?_) (fun b4 => ?_)
  · refine g_iconst dX8_lay_9 ?_
    refine g_istore_n (by decide) dX8_lay_10 ?_
    refine g_subl [(0, vR 44), (1, vI ((0 : Nat) : Int))] rfl ?_
    exact loop1 (by omega) 0 (by omega) (fun i hi => absurd hi (by omega))
  · refine g_iconst dX8_lay_7 ?_
    refine g_ireturn rfl dX8_lay_8 ?_
    exact h0 (by omega)
