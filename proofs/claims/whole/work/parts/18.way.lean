/-! the class's ways -/
def MvC (X : Mm) (c : Nat) (v : Mv) : Prop := X c 0 = (vn v : Int) ∧ X c 1 = vr v ∧ (∀ k, k < vn v → X (c + 1) k = vA v k ∧ X (c + 2) k = vB v k ∧ X (c + 3) k = (va v k : Int) ∧ X (c + 4) k = (vu v k : Int)) ∧ ∀ i j, i < vn v → j < vn v → X (c + 5) (8 * i + j) = vT v i j
def WayC (X : Mm) (c : Nat) (v : Mv) (f h : Nat → Nat) : Prop := X c 0 = (vn v : Int) ∧ X c 1 = vr v ∧ (∀ j, j < vn v → X (c + 1) j = (f j : Int) ∧ X (c + 4) (f j) = ps (vA v) h (posI h (f j) (vn v)) - ps (vA v) f j ∧ X (c + 5) (f j) = ps (vB v) h (posI h (f j) (vn v)) - ps (vB v) f j) ∧ ∀ j, j ≤ vn v → X (c + 2) j = ps (vA v) f j ∧ X (c + 3) j = ps (vB v) f j
def DrA (X : Mm) (c : Nat) (v : Mv) (h : Nat → Nat) (i : Nat) (X2 : Mm) : Prop := (∀ d k, (d < c ∨ c + 5 < d) → X2 d k = X d k) ∧ X2 c 0 = (vn v : Int) ∧ X2 c 1 = vr v ∧ ∀ q, q < i → X2 (c + 4) (h q) = ps (vA v) h q ∧ X2 (c + 5) (h q) = ps (vB v) h q
def DrB (X : Mm) (c : Nat) (v : Mv) (f h : Nat → Nat) (j : Nat) (X2 : Mm) : Prop := (∀ d k, (d < c ∨ c + 5 < d) → X2 d k = X d k) ∧ X2 c 0 = (vn v : Int) ∧ X2 c 1 = vr v ∧ (∀ q, q < j → X2 (c + 1) q = (f q : Int) ∧ X2 (c + 4) (f q) = ps (vA v) h (posI h (f q) (vn v)) - ps (vA v) f q ∧ X2 (c + 5) (f q) = ps (vB v) h (posI h (f q) (vn v)) - ps (vB v) f q ∧ X2 (c + 2) q = ps (vA v) f q ∧ X2 (c + 3) q = ps (vB v) f q) ∧ ∀ q, j ≤ q → q < vn v → X2 (c + 4) (f q) = ps (vA v) h (posI h (f q) (vn v)) ∧ X2 (c + 5) (f q) = ps (vB v) h (posI h (f q) (vn v))
theorem drA_s {X X2 : Mm} {c : Nat} {v : Mv} {h : Nat → Nat} {i : Nat} (hh : Perm h (vn v)) (hi : i < vn v) (hd : DrA X c v h i X2) : DrA X c v h (i + 1) (st2 (st2 X2 (c + 4) (h i) (ps (vA v) h i)) (c + 5) (h i) (ps (vB v) h i)) := by
  obtain ⟨e1, e2, e3, e4⟩ := hd
  refine ⟨fun d k hd => ?_, ?_, ?_, fun q hq => ?_⟩
  · have z1 : d ≠ c + 4 := by omega
    have z2 : d ≠ c + 5 := by omega
    simp only [st2, if_neg z1, if_neg z2]
    exact e1 d k hd
  · have z1 : c ≠ c + 4 := by omega
    have z2 : c ≠ c + 5 := by omega
    simp only [st2, if_neg z1, if_neg z2]
    exact e2
  · have z1 : c ≠ c + 4 := by omega
    have z2 : c ≠ c + 5 := by omega
    simp only [st2, if_neg z1, if_neg z2]
    exact e3
  · have z1 : c + 4 ≠ c + 5 := by omega
    have z2 : c + 5 ≠ c + 4 := by omega
    rcases Nat.lt_or_ge q i with z | z
    · have z3 : h q ≠ h i := fun e => by have := hh.2 q i (by omega) hi e; omega
      simp only [st2, if_neg z1, if_neg z2, if_neg z3, if_true]
      exact e4 q z
    · obtain rfl : q = i := by omega
      simp [st2]
theorem drB_0 {X X2 : Mm} {c : Nat} {v : Mv} {f h : Nat → Nat} (hf : Perm f (vn v)) (hh : Perm h (vn v)) (hd : DrA X c v h (vn v) X2) : DrB X c v f h 0 X2 := by
  obtain ⟨e1, e2, e3, e4⟩ := hd
  refine ⟨e1, e2, e3, fun q hq => by omega, fun q _ hq => ?_⟩
  obtain ⟨p1, p2⟩ := posI_spec hh (hf.1 q hq)
  have := e4 _ p1
  rw [p2] at this
  exact this
theorem drB_s {X X2 : Mm} {c : Nat} {v : Mv} {f h : Nat → Nat} {j : Nat} (hf : Perm f (vn v)) (hj : j < vn v) (hd : DrB X c v f h j X2) : DrB X c v f h (j + 1) (st2 (st2 (st2 (st2 (st2 X2 (c + 1) j (f j : Int)) (c + 2) j (ps (vA v) f j)) (c + 3) j (ps (vB v) f j)) (c + 4) (f j) (ps (vA v) h (posI h (f j) (vn v)) - ps (vA v) f j)) (c + 5) (f j) (ps (vB v) h (posI h (f j) (vn v)) - ps (vB v) f j)) := by
  obtain ⟨e1, e2, e3, e4, e5⟩ := hd
  have q01 : c ≠ c + 1 := by omega
  have q02 : c ≠ c + 2 := by omega
  have q03 : c ≠ c + 3 := by omega
  have q04 : c ≠ c + 4 := by omega
  have q05 : c ≠ c + 5 := by omega
  refine ⟨fun d k hd => ?_, ?_, ?_, fun q hq => ?_, fun q hq hn => ?_⟩
  · have z1 : d ≠ c + 1 := by omega
    have z2 : d ≠ c + 2 := by omega
    have z3 : d ≠ c + 3 := by omega
    have z4 : d ≠ c + 4 := by omega
    have z5 : d ≠ c + 5 := by omega
    simp only [st2, if_neg z1, if_neg z2, if_neg z3, if_neg z4, if_neg z5]
    exact e1 d k hd
  · simp only [st2, if_neg q01, if_neg q02, if_neg q03, if_neg q04, if_neg q05]
    exact e2
  · simp only [st2, if_neg q01, if_neg q02, if_neg q03, if_neg q04, if_neg q05]
    exact e3
  · rcases Nat.lt_or_ge q j with z | z
    · have z3 : f q ≠ f j := fun e => by have := hf.2 q j (by omega) hj e; omega
      have z4 : q ≠ j := by omega
      simp [st2, z3, z4]
      exact e4 q z
    · obtain rfl : q = j := by omega
      simp [st2]
  · have z3 : f q ≠ f j := fun e => by have := hf.2 q j hn hj e; omega
    simp [st2, z3]
    exact e5 q (by omega) hn
theorem drB_e {X X2 : Mm} {c : Nat} {v : Mv} {f h : Nat → Nat} (hd : DrB X c v f h (vn v) X2) : WayC (st2 (st2 X2 (c + 2) (vn v) (ps (vA v) f (vn v))) (c + 3) (vn v) (ps (vB v) f (vn v))) c v f h ∧ ∀ d k, (d < c ∨ c + 5 < d) → (st2 (st2 X2 (c + 2) (vn v) (ps (vA v) f (vn v))) (c + 3) (vn v) (ps (vB v) f (vn v))) d k = X d k := by
  obtain ⟨e1, e2, e3, e4, e5⟩ := hd
  have q02 : c ≠ c + 2 := by omega
  have q03 : c ≠ c + 3 := by omega
  refine ⟨⟨?_, ?_, fun j hj => ?_, fun j hj => ?_⟩, fun d k hd => ?_⟩
  · simp only [st2, if_neg q02, if_neg q03]
    exact e2
  · simp only [st2, if_neg q02, if_neg q03]
    exact e3
  · have z := e4 j hj
    simp [st2]
    exact ⟨z.1, z.2.1, z.2.2.1⟩
  · rcases Nat.lt_or_ge j (vn v) with z | z
    · have z4 : j ≠ vn v := by omega
      simp [st2, z4]
      exact (e4 j z).2.2.2
    · obtain rfl : j = vn v := by omega
      simp [st2]
  · have z2 : d ≠ c + 2 := by omega
    have z3 : d ≠ c + 3 := by omega
    simp only [st2, if_neg z2, if_neg z3]
    exact e1 d k hd
set_option maxRecDepth 100000 in
set_option maxHeartbeats 4000000 in
theorem ct_X6_draw_17 {l : Launch} {g : Geo} {X : Mm} {K : AV → Mm → Prop} {v : Mv} (hX : MvC X 5 v) (hv : Vd v) (hk : ∀ X2, WayC X2 17 v (va v) (vu v) → (∀ d k, (d < 17 ∨ 22 < d) → X2 d k = X d k) → K (vI 0) X2) : Ct l g mX6_draw [vR 17, vR 5, vR 8, vR 9] X K := by
  refine enter (by decide) (Nat.le_of_ble_eq_true rfl) (fun κ => ?_)
  have hn8 := hv.2.1
  have hpa := hv.2.2.2.2.1
  have hpu := hv.2.2.2.2.2.1
  have hf : Perm (va v) (vn v) := by first | exact hpa | exact hpu
  have hh : Perm (vu v) (vn v) := by first | exact hpu | exact hpa
  have xF : ∀ j, j < vn v → X 8 j = (va v j : Int) := fun j hj => by first | exact (hX.2.2.1 j hj).2.2.1 | exact (hX.2.2.1 j hj).2.2.2
  have xH : ∀ j, j < vn v → X 9 j = (vu v j : Int) := fun j hj => by first | exact (hX.2.2.1 j hj).2.2.2 | exact (hX.2.2.1 j hj).2.2.1
  have xA : ∀ j, j < vn v → X 6 j = vA v j ∧ X 7 j = vB v j := fun j hj => ⟨(hX.2.2.1 j hj).1, (hX.2.2.1 j hj).2.1⟩
  have loop2 : ∀ j, j ≤ vn v → ∀ X2, DrB X 17 v (va v) (vu v) j X2 → G l g mX6_draw κ K 99 [(0, vR 17), (1, vR 5), (2, vR 8), (3, vR 9), (4, vJ (ps (vA v) (va v) j)), (6, vJ (ps (vB v) (va v) j)), (8, vI (j : Int))] [] X2 := by
    refine upTo (vn v) ?_
    intro j hj ih X2 hd
    have z0 : X2 17 0 = (vn v : Int) := hd.2.1
    refine g_iload rfl dX6_draw_99 ?_
    refine g_aload_n rfl dX6_draw_101 ?_
    refine gf_X6_34 rfl (by first | rfl | assumption) dX6_draw_102 ?_
    refine g_icmp_ge (t := 197) dX6_draw_105 (by decide) (by first | omega | (simp [st2]; done) | (simp [st2]; omega)) (by first | omega | (simp [st2]; done) | (simp [st2]; omega)) (fun b105 => ?_) (fun b105 => ?_)
    · obtain rfl : j = vn v := by omega
      have z02 : ∀ w : Int, (st2 X2 19 (vn v) w) 17 0 = (vn v : Int) := fun w => z0
      refine g_aload_n rfl dX6_draw_197 ?_
      refine gf_X6_15 (c2 := 19) rfl rfl (by first | rfl | assumption) dX6_draw_198 ?_
      refine g_aload_n rfl dX6_draw_201 ?_
      refine gf_X6_34 rfl (by first | rfl | assumption) dX6_draw_202 ?_
      refine g_lload rfl dX6_draw_205 ?_
      refine g_last (n := 9) (vn v) (by first | rfl | assumption) (by first | rfl | assumption) (by omega) (by first | omega | (simp [st2]; done) | (simp [st2]; omega)) (by first | omega | (simp [st2]; done) | (simp [st2]; omega)) dX6_draw_207 ?_
      refine g_aload_n rfl dX6_draw_208 ?_
      refine gf_X6_19 (c2 := 20) rfl rfl (by first | rfl | assumption) dX6_draw_209 ?_
      refine g_aload_n rfl dX6_draw_212 ?_
      refine gf_X6_34 rfl (by first | rfl | assumption) dX6_draw_213 ?_
      rw [z02]
      refine g_lload rfl dX6_draw_216 ?_
      refine g_last (n := 9) (vn v) (by first | rfl | assumption) (by first | rfl | assumption) (by omega) (by first | omega | (simp [st2]; done) | (simp [st2]; omega)) (by first | omega | (simp [st2]; done) | (simp [st2]; omega)) dX6_draw_218 ?_
      refine g_return rfl dX6_draw_219 ?_
      obtain ⟨w1, w2⟩ := drB_e hd
      exact hk _ w1 w2
    · have hfj := hf.1 j (by omega)
      have q2 := hv.2.2.2.1 _ hfj
      have zo : X2 8 j = (va v j : Int) := by rw [hd.1 8 j (by omega)]; exact xF j (by omega)
      have d5 := hd.2.2.2.2 j (Nat.le_refl _) (by omega)
      have zA : X2 6 (va v j) = vA v (va v j) := by rw [hd.1 6 _ (by omega)]; exact (xA _ hfj).1
      have zB : X2 7 (va v j) = vB v (va v j) := by rw [hd.1 7 _ (by omega)]; exact (xA _ hfj).2
      have zS : (st2 (st2 (st2 X2 18 j (va v j : Int)) 19 j (ps (vA v) (va v) j)) 20 j (ps (vB v) (va v) j)) 21 (va v j) = ps (vA v) (vu v) (posI (vu v) (va v j) (vn v)) := d5.1
      have zT : ∀ w : Int, (st2 (st2 (st2 (st2 X2 18 j (va v j : Int)) 19 j (ps (vA v) (va v) j)) 20 j (ps (vB v) (va v) j)) 21 (va v j) w) 22 (va v j) = ps (vB v) (vu v) (posI (vu v) (va v j) (vn v)) := fun w => d5.2
      have zA2 : ∀ w u : Int, (st2 (st2 (st2 (st2 (st2 X2 18 j (va v j : Int)) 19 j (ps (vA v) (va v) j)) 20 j (ps (vB v) (va v) j)) 21 (va v j) w) 22 (va v j) u) 6 (va v j) = vA v (va v j) := fun w u => zA
      have zB2 : ∀ w u : Int, (st2 (st2 (st2 (st2 (st2 X2 18 j (va v j : Int)) 19 j (ps (vA v) (va v) j)) 20 j (ps (vB v) (va v) j)) 21 (va v j) w) 22 (va v j) u) 7 (va v j) = vB v (va v j) := fun w u => zB
      refine g_aload_n rfl dX6_draw_108 ?_
      refine g_iload rfl dX6_draw_109 ?_
      refine g_iald (n := 8) (_) (by first | rfl | assumption) (by first | rfl | assumption) rfl (by first | omega | (simp [st2]; done) | (simp [st2]; omega)) (by first | omega | (simp [st2]; done) | (simp [st2]; omega)) dX6_draw_111 ?_
      rw [zo]
      refine g_istore (by decide) dX6_draw_112 ?_
      refine g_aload_n rfl dX6_draw_114 ?_
      refine gf_X6_9 (c2 := 18) rfl rfl (by first | rfl | assumption) dX6_draw_115 ?_
      refine g_iload rfl dX6_draw_118 ?_
      refine g_iload rfl dX6_draw_120 ?_
      refine g_iast (n := 8) (_) (by first | rfl | assumption) (by first | rfl | assumption) rfl (by first | omega | (simp [st2]; done) | (simp [st2]; omega)) (by first | omega | (simp [st2]; done) | (simp [st2]; omega)) dX6_draw_122 ?_
      refine g_aload_n rfl dX6_draw_123 ?_
      refine gf_X6_15 (c2 := 19) rfl rfl (by first | rfl | assumption) dX6_draw_124 ?_
      refine g_iload rfl dX6_draw_127 ?_
      refine g_lload rfl dX6_draw_129 ?_
      refine g_last (n := 9) (_) (by first | rfl | assumption) (by first | rfl | assumption) rfl (by first | omega | (simp [st2]; done) | (simp [st2]; omega)) (by first | omega | (simp [st2]; done) | (simp [st2]; omega)) dX6_draw_131 ?_
      refine g_aload_n rfl dX6_draw_132 ?_
      refine gf_X6_19 (c2 := 20) rfl rfl (by first | rfl | assumption) dX6_draw_133 ?_
      refine g_iload rfl dX6_draw_136 ?_
      refine g_lload rfl dX6_draw_138 ?_
      refine g_last (n := 9) (_) (by first | rfl | assumption) (by first | rfl | assumption) rfl (by first | omega | (simp [st2]; done) | (simp [st2]; omega)) (by first | omega | (simp [st2]; done) | (simp [st2]; omega)) dX6_draw_140 ?_
      refine g_aload_n rfl dX6_draw_141 ?_
      refine gf_X6_22 (c2 := 21) rfl rfl (by first | rfl | assumption) dX6_draw_142 ?_
      refine g_iload rfl dX6_draw_145 ?_
      refine g_dup2 rfl rfl dX6_draw_147 ?_
      refine g_lald (n := 8) (va v j) (by first | rfl | assumption) (by first | rfl | assumption) (by omega) (by first | omega | (simp [st2]; done) | (simp [st2]; omega)) (by first | omega | (simp [st2]; done) | (simp [st2]; omega)) dX6_draw_148 ?_
      rw [zS]
      refine g_lload rfl dX6_draw_149 ?_
      refine g_lsub dX6_draw_151 ?_
      refine g_last (n := 8) (va v j) (by first | rfl | assumption) (by first | rfl | assumption) (by omega) (by first | omega | (simp [st2]; done) | (simp [st2]; omega)) (by first | omega | (simp [st2]; done) | (simp [st2]; omega)) dX6_draw_152 ?_
      refine g_aload_n rfl dX6_draw_153 ?_
      refine gf_X6_25 (c2 := 22) rfl rfl (by first | rfl | assumption) dX6_draw_154 ?_
      refine g_iload rfl dX6_draw_157 ?_
      refine g_dup2 rfl rfl dX6_draw_159 ?_
      refine g_lald (n := 8) (va v j) (by first | rfl | assumption) (by first | rfl | assumption) (by omega) (by first | omega | (simp [st2]; done) | (simp [st2]; omega)) (by first | omega | (simp [st2]; done) | (simp [st2]; omega)) dX6_draw_160 ?_
      rw [zT]
      refine g_lload rfl dX6_draw_161 ?_
      refine g_lsub dX6_draw_163 ?_
      refine g_last (n := 8) (va v j) (by first | rfl | assumption) (by first | rfl | assumption) (by omega) (by first | omega | (simp [st2]; done) | (simp [st2]; omega)) (by first | omega | (simp [st2]; done) | (simp [st2]; omega)) dX6_draw_164 ?_
      refine g_lload rfl dX6_draw_165 ?_
      refine g_aload_n rfl dX6_draw_167 ?_
      refine gf_X6_39 (c2 := 6) rfl rfl (by first | rfl | assumption) dX6_draw_168 ?_
      refine g_iload rfl dX6_draw_171 ?_
      refine g_iald (n := 8) (va v j) (by first | rfl | assumption) (by first | rfl | assumption) (by omega) (by first | omega | (simp [st2]; done) | (simp [st2]; omega)) (by first | omega | (simp [st2]; done) | (simp [st2]; omega)) dX6_draw_173 ?_
      rw [zA2]
      refine g_i2l (by first | omega | (simp [st2]; done) | (simp [st2]; omega)) dX6_draw_174 ?_
      refine g_ladd dX6_draw_175 ?_
      refine g_lstore (by decide) dX6_draw_176 ?_
      refine g_lload rfl dX6_draw_178 ?_
      refine g_aload_n rfl dX6_draw_180 ?_
      refine gf_X6_42 (c2 := 7) rfl rfl (by first | rfl | assumption) dX6_draw_181 ?_
      refine g_iload rfl dX6_draw_184 ?_
      refine g_iald (n := 8) (va v j) (by first | rfl | assumption) (by first | rfl | assumption) (by omega) (by first | omega | (simp [st2]; done) | (simp [st2]; omega)) (by first | omega | (simp [st2]; done) | (simp [st2]; omega)) dX6_draw_186 ?_
      rw [zB2]
      refine g_i2l (by first | omega | (simp [st2]; done) | (simp [st2]; omega)) dX6_draw_187 ?_
      refine g_ladd dX6_draw_188 ?_
      refine g_lstore (by decide) dX6_draw_189 ?_
      refine g_iinc rfl (by decide) dX6_draw_191 ?_
      refine g_goto (t := 99) dX6_draw_194 (by decide) ?_
      refine g_subl [(0, vR 17), (1, vR 5), (2, vR 8), (3, vR 9), (4, vJ (ps (vA v) (va v) (j + 1))), (6, vJ (ps (vB v) (va v) (j + 1))), (8, vI ((j + 1 : Nat) : Int))] rfl ?_
      exact ih (j + 1) (by omega) (by omega) _ (drB_s hf (by omega) hd)
  have loop1 : ∀ i, i ≤ vn v → ∀ X2, DrA X 17 v (vu v) i X2 → G l g mX6_draw κ K 25 [(0, vR 17), (1, vR 5), (2, vR 8), (3, vR 9), (4, vJ (ps (vA v) (vu v) i)), (6, vJ (ps (vB v) (vu v) i)), (8, vI (i : Int))] [] X2 := by
    refine upTo (vn v) ?_
    intro i hi ih X2 hd
    have z0 : X2 17 0 = (vn v : Int) := hd.2.1
    refine g_iload rfl dX6_draw_25 ?_
    refine g_aload_n rfl dX6_draw_27 ?_
    refine gf_X6_34 rfl (by first | rfl | assumption) dX6_draw_28 ?_
    refine g_icmp_ge (t := 90) dX6_draw_31 (by decide) (by first | omega | (simp [st2]; done) | (simp [st2]; omega)) (by first | omega | (simp [st2]; done) | (simp [st2]; omega)) (fun b31 => ?_) (fun b31 => ?_)
    · refine g_lconst rfl dX6_draw_90 ?_
      refine g_lstore (by decide) dX6_draw_91 ?_
      refine g_lconst rfl dX6_draw_93 ?_
      refine g_lstore (by decide) dX6_draw_94 ?_
      refine g_iconst dX6_draw_96 ?_
      refine g_istore (by decide) dX6_draw_97 ?_
      obtain rfl : i = vn v := by omega
      refine g_subl [(0, vR 17), (1, vR 5), (2, vR 8), (3, vR 9), (4, vJ (ps (vA v) (va v) 0)), (6, vJ (ps (vB v) (va v) 0)), (8, vI ((0 : Nat) : Int))] rfl ?_
      exact loop2 0 (by omega) _ (drB_0 hf hh hd)
    · have hhi := hh.1 i (by omega)
      have q2 := hv.2.2.2.1 _ hhi
      have zo : X2 9 i = (vu v i : Int) := by rw [hd.1 9 i (by omega)]; exact xH i (by omega)
      have zA : ∀ w u : Int, (st2 (st2 X2 21 (vu v i) w) 22 (vu v i) u) 6 (vu v i) = vA v (vu v i) := fun w u => by
        show X2 6 (vu v i) = _
        rw [hd.1 6 _ (by omega)]; exact (xA _ hhi).1
      have zB : ∀ w u : Int, (st2 (st2 X2 21 (vu v i) w) 22 (vu v i) u) 7 (vu v i) = vB v (vu v i) := fun w u => by
        show X2 7 (vu v i) = _
        rw [hd.1 7 _ (by omega)]; exact (xA _ hhi).2
      refine g_aload_n rfl dX6_draw_34 ?_
      refine g_iload rfl dX6_draw_35 ?_
      refine g_iald (n := 8) (_) (by first | rfl | assumption) (by first | rfl | assumption) rfl (by first | omega | (simp [st2]; done) | (simp [st2]; omega)) (by first | omega | (simp [st2]; done) | (simp [st2]; omega)) dX6_draw_37 ?_
      rw [zo]
      refine g_istore (by decide) dX6_draw_38 ?_
      refine g_aload_n rfl dX6_draw_40 ?_
      refine gf_X6_22 (c2 := 21) rfl rfl (by first | rfl | assumption) dX6_draw_41 ?_
      refine g_iload rfl dX6_draw_44 ?_
      refine g_lload rfl dX6_draw_46 ?_
      refine g_last (n := 8) (vu v i) (by first | rfl | assumption) (by first | rfl | assumption) (by omega) (by first | omega | (simp [st2]; done) | (simp [st2]; omega)) (by first | omega | (simp [st2]; done) | (simp [st2]; omega)) dX6_draw_48 ?_
      refine g_aload_n rfl dX6_draw_49 ?_
      refine gf_X6_25 (c2 := 22) rfl rfl (by first | rfl | assumption) dX6_draw_50 ?_
      refine g_iload rfl dX6_draw_53 ?_
      refine g_lload rfl dX6_draw_55 ?_
      refine g_last (n := 8) (vu v i) (by first | rfl | assumption) (by first | rfl | assumption) (by omega) (by first | omega | (simp [st2]; done) | (simp [st2]; omega)) (by first | omega | (simp [st2]; done) | (simp [st2]; omega)) dX6_draw_57 ?_
      refine g_lload rfl dX6_draw_58 ?_
      refine g_aload_n rfl dX6_draw_60 ?_
      refine gf_X6_39 (c2 := 6) rfl rfl (by first | rfl | assumption) dX6_draw_61 ?_
      refine g_iload rfl dX6_draw_64 ?_
      refine g_iald (n := 8) (vu v i) (by first | rfl | assumption) (by first | rfl | assumption) (by omega) (by first | omega | (simp [st2]; done) | (simp [st2]; omega)) (by first | omega | (simp [st2]; done) | (simp [st2]; omega)) dX6_draw_66 ?_
      rw [zA]
      refine g_i2l (by first | omega | (simp [st2]; done) | (simp [st2]; omega)) dX6_draw_67 ?_
      refine g_ladd dX6_draw_68 ?_
      refine g_lstore (by decide) dX6_draw_69 ?_
      refine g_lload rfl dX6_draw_71 ?_
      refine g_aload_n rfl dX6_draw_73 ?_
      refine gf_X6_42 (c2 := 7) rfl rfl (by first | rfl | assumption) dX6_draw_74 ?_
      refine g_iload rfl dX6_draw_77 ?_
      refine g_iald (n := 8) (vu v i) (by first | rfl | assumption) (by first | rfl | assumption) (by omega) (by first | omega | (simp [st2]; done) | (simp [st2]; omega)) (by first | omega | (simp [st2]; done) | (simp [st2]; omega)) dX6_draw_79 ?_
      rw [zB]
      refine g_i2l (by first | omega | (simp [st2]; done) | (simp [st2]; omega)) dX6_draw_80 ?_
      refine g_ladd dX6_draw_81 ?_
      refine g_lstore (by decide) dX6_draw_82 ?_
      refine g_iinc rfl (by decide) dX6_draw_84 ?_
      refine g_goto (t := 25) dX6_draw_87 (by decide) ?_
      refine g_subl [(0, vR 17), (1, vR 5), (2, vR 8), (3, vR 9), (4, vJ (ps (vA v) (vu v) (i + 1))), (6, vJ (ps (vB v) (vu v) (i + 1))), (8, vI ((i + 1 : Nat) : Int))] rfl ?_
      exact ih (i + 1) (by omega) (by omega) _ (drA_s hh (by omega) hd)
  refine g_aload_n rfl dX6_draw_0 ?_
  refine g_aload_n rfl dX6_draw_1 ?_
  refine gf_X6_28 rfl (by first | rfl | assumption) dX6_draw_2 ?_
  refine pf_X6_34 rfl (by first | rfl | assumption) dX6_draw_5 ?_
  refine g_aload_n rfl dX6_draw_8 ?_
  refine g_aload_n rfl dX6_draw_9 ?_
  refine gf_X6_35 rfl (by first | rfl | assumption) dX6_draw_10 ?_
  refine pf_X6_38 rfl (by first | rfl | assumption) dX6_draw_13 ?_
  refine g_lconst rfl dX6_draw_16 ?_
  refine g_lstore (by decide) dX6_draw_17 ?_
  refine g_lconst rfl dX6_draw_19 ?_
  refine g_lstore (by decide) dX6_draw_20 ?_
  refine g_iconst dX6_draw_22 ?_
  refine g_istore (by decide) dX6_draw_23 ?_
  refine g_subl [(0, vR 17), (1, vR 5), (2, vR 8), (3, vR 9), (4, vJ (ps (vA v) (vu v) 0)), (6, vJ (ps (vB v) (vu v) 0)), (8, vI ((0 : Nat) : Int))] rfl ?_
  refine loop1 0 (by omega) _ ⟨fun d k hd => ?_, hX.1, hX.2.1, fun q hq => absurd hq (by omega)⟩
  have z : d ≠ 17 := by omega
  simp only [st2, if_neg z]
set_option maxRecDepth 100000 in
set_option maxHeartbeats 4000000 in
theorem ct_X6_draw_23 {l : Launch} {g : Geo} {X : Mm} {K : AV → Mm → Prop} {v : Mv} (hX : MvC X 5 v) (hv : Vd v) (hk : ∀ X2, WayC X2 23 v (vu v) (va v) → (∀ d k, (d < 23 ∨ 28 < d) → X2 d k = X d k) → K (vI 0) X2) : Ct l g mX6_draw [vR 23, vR 5, vR 9, vR 8] X K := by
  refine enter (by decide) (Nat.le_of_ble_eq_true rfl) (fun κ => ?_)
  have hn8 := hv.2.1
  have hpa := hv.2.2.2.2.1
  have hpu := hv.2.2.2.2.2.1
  have hf : Perm (vu v) (vn v) := by first | exact hpa | exact hpu
  have hh : Perm (va v) (vn v) := by first | exact hpu | exact hpa
  have xF : ∀ j, j < vn v → X 9 j = (vu v j : Int) := fun j hj => by first | exact (hX.2.2.1 j hj).2.2.1 | exact (hX.2.2.1 j hj).2.2.2
  have xH : ∀ j, j < vn v → X 8 j = (va v j : Int) := fun j hj => by first | exact (hX.2.2.1 j hj).2.2.2 | exact (hX.2.2.1 j hj).2.2.1
  have xA : ∀ j, j < vn v → X 6 j = vA v j ∧ X 7 j = vB v j := fun j hj => ⟨(hX.2.2.1 j hj).1, (hX.2.2.1 j hj).2.1⟩
  have loop2 : ∀ j, j ≤ vn v → ∀ X2, DrB X 23 v (vu v) (va v) j X2 → G l g mX6_draw κ K 99 [(0, vR 23), (1, vR 5), (2, vR 9), (3, vR 8), (4, vJ (ps (vA v) (vu v) j)), (6, vJ (ps (vB v) (vu v) j)), (8, vI (j : Int))] [] X2 := by
    refine upTo (vn v) ?_
    intro j hj ih X2 hd
    have z0 : X2 23 0 = (vn v : Int) := hd.2.1
    refine g_iload rfl dX6_draw_99 ?_
    refine g_aload_n rfl dX6_draw_101 ?_
    refine gf_X6_34 rfl (by first | rfl | assumption) dX6_draw_102 ?_
    refine g_icmp_ge (t := 197) dX6_draw_105 (by decide) (by first | omega | (simp [st2]; done) | (simp [st2]; omega)) (by first | omega | (simp [st2]; done) | (simp [st2]; omega)) (fun b105 => ?_) (fun b105 => ?_)
    · obtain rfl : j = vn v := by omega
      have z02 : ∀ w : Int, (st2 X2 25 (vn v) w) 23 0 = (vn v : Int) := fun w => z0
      refine g_aload_n rfl dX6_draw_197 ?_
      refine gf_X6_15 (c2 := 25) rfl rfl (by first | rfl | assumption) dX6_draw_198 ?_
      refine g_aload_n rfl dX6_draw_201 ?_
      refine gf_X6_34 rfl (by first | rfl | assumption) dX6_draw_202 ?_
      refine g_lload rfl dX6_draw_205 ?_
      refine g_last (n := 9) (vn v) (by first | rfl | assumption) (by first | rfl | assumption) (by omega) (by first | omega | (simp [st2]; done) | (simp [st2]; omega)) (by first | omega | (simp [st2]; done) | (simp [st2]; omega)) dX6_draw_207 ?_
      refine g_aload_n rfl dX6_draw_208 ?_
      refine gf_X6_19 (c2 := 26) rfl rfl (by first | rfl | assumption) dX6_draw_209 ?_
      refine g_aload_n rfl dX6_draw_212 ?_
      refine gf_X6_34 rfl (by first | rfl | assumption) dX6_draw_213 ?_
      rw [z02]
      refine g_lload rfl dX6_draw_216 ?_
      refine g_last (n := 9) (vn v) (by first | rfl | assumption) (by first | rfl | assumption) (by omega) (by first | omega | (simp [st2]; done) | (simp [st2]; omega)) (by first | omega | (simp [st2]; done) | (simp [st2]; omega)) dX6_draw_218 ?_
      refine g_return rfl dX6_draw_219 ?_
      obtain ⟨w1, w2⟩ := drB_e hd
      exact hk _ w1 w2
    · have hfj := hf.1 j (by omega)
      have q2 := hv.2.2.2.1 _ hfj
      have zo : X2 9 j = (vu v j : Int) := by rw [hd.1 9 j (by omega)]; exact xF j (by omega)
      have d5 := hd.2.2.2.2 j (Nat.le_refl _) (by omega)
      have zA : X2 6 (vu v j) = vA v (vu v j) := by rw [hd.1 6 _ (by omega)]; exact (xA _ hfj).1
      have zB : X2 7 (vu v j) = vB v (vu v j) := by rw [hd.1 7 _ (by omega)]; exact (xA _ hfj).2
      have zS : (st2 (st2 (st2 X2 24 j (vu v j : Int)) 25 j (ps (vA v) (vu v) j)) 26 j (ps (vB v) (vu v) j)) 27 (vu v j) = ps (vA v) (va v) (posI (va v) (vu v j) (vn v)) := d5.1
      have zT : ∀ w : Int, (st2 (st2 (st2 (st2 X2 24 j (vu v j : Int)) 25 j (ps (vA v) (vu v) j)) 26 j (ps (vB v) (vu v) j)) 27 (vu v j) w) 28 (vu v j) = ps (vB v) (va v) (posI (va v) (vu v j) (vn v)) := fun w => d5.2
      have zA2 : ∀ w u : Int, (st2 (st2 (st2 (st2 (st2 X2 24 j (vu v j : Int)) 25 j (ps (vA v) (vu v) j)) 26 j (ps (vB v) (vu v) j)) 27 (vu v j) w) 28 (vu v j) u) 6 (vu v j) = vA v (vu v j) := fun w u => zA
      have zB2 : ∀ w u : Int, (st2 (st2 (st2 (st2 (st2 X2 24 j (vu v j : Int)) 25 j (ps (vA v) (vu v) j)) 26 j (ps (vB v) (vu v) j)) 27 (vu v j) w) 28 (vu v j) u) 7 (vu v j) = vB v (vu v j) := fun w u => zB
      refine g_aload_n rfl dX6_draw_108 ?_
      refine g_iload rfl dX6_draw_109 ?_
      refine g_iald (n := 8) (_) (by first | rfl | assumption) (by first | rfl | assumption) rfl (by first | omega | (simp [st2]; done) | (simp [st2]; omega)) (by first | omega | (simp [st2]; done) | (simp [st2]; omega)) dX6_draw_111 ?_
      rw [zo]
      refine g_istore (by decide) dX6_draw_112 ?_
      refine g_aload_n rfl dX6_draw_114 ?_
      refine gf_X6_9 (c2 := 24) rfl rfl (by first | rfl | assumption) dX6_draw_115 ?_
      refine g_iload rfl dX6_draw_118 ?_
      refine g_iload rfl dX6_draw_120 ?_
      refine g_iast (n := 8) (_) (by first | rfl | assumption) (by first | rfl | assumption) rfl (by first | omega | (simp [st2]; done) | (simp [st2]; omega)) (by first | omega | (simp [st2]; done) | (simp [st2]; omega)) dX6_draw_122 ?_
      refine g_aload_n rfl dX6_draw_123 ?_
      refine gf_X6_15 (c2 := 25) rfl rfl (by first | rfl | assumption) dX6_draw_124 ?_
      refine g_iload rfl dX6_draw_127 ?_
      refine g_lload rfl dX6_draw_129 ?_
      refine g_last (n := 9) (_) (by first | rfl | assumption) (by first | rfl | assumption) rfl (by first | omega | (simp [st2]; done) | (simp [st2]; omega)) (by first | omega | (simp [st2]; done) | (simp [st2]; omega)) dX6_draw_131 ?_
      refine g_aload_n rfl dX6_draw_132 ?_
      refine gf_X6_19 (c2 := 26) rfl rfl (by first | rfl | assumption) dX6_draw_133 ?_
      refine g_iload rfl dX6_draw_136 ?_
      refine g_lload rfl dX6_draw_138 ?_
      refine g_last (n := 9) (_) (by first | rfl | assumption) (by first | rfl | assumption) rfl (by first | omega | (simp [st2]; done) | (simp [st2]; omega)) (by first | omega | (simp [st2]; done) | (simp [st2]; omega)) dX6_draw_140 ?_
      refine g_aload_n rfl dX6_draw_141 ?_
      refine gf_X6_22 (c2 := 27) rfl rfl (by first | rfl | assumption) dX6_draw_142 ?_
      refine g_iload rfl dX6_draw_145 ?_
      refine g_dup2 rfl rfl dX6_draw_147 ?_
      refine g_lald (n := 8) (vu v j) (by first | rfl | assumption) (by first | rfl | assumption) (by omega) (by first | omega | (simp [st2]; done) | (simp [st2]; omega)) (by first | omega | (simp [st2]; done) | (simp [st2]; omega)) dX6_draw_148 ?_
      rw [zS]
      refine g_lload rfl dX6_draw_149 ?_
      refine g_lsub dX6_draw_151 ?_
      refine g_last (n := 8) (vu v j) (by first | rfl | assumption) (by first | rfl | assumption) (by omega) (by first | omega | (simp [st2]; done) | (simp [st2]; omega)) (by first | omega | (simp [st2]; done) | (simp [st2]; omega)) dX6_draw_152 ?_
      refine g_aload_n rfl dX6_draw_153 ?_
      refine gf_X6_25 (c2 := 28) rfl rfl (by first | rfl | assumption) dX6_draw_154 ?_
      refine g_iload rfl dX6_draw_157 ?_
      refine g_dup2 rfl rfl dX6_draw_159 ?_
      refine g_lald (n := 8) (vu v j) (by first | rfl | assumption) (by first | rfl | assumption) (by omega) (by first | omega | (simp [st2]; done) | (simp [st2]; omega)) (by first | omega | (simp [st2]; done) | (simp [st2]; omega)) dX6_draw_160 ?_
      rw [zT]
      refine g_lload rfl dX6_draw_161 ?_
      refine g_lsub dX6_draw_163 ?_
      refine g_last (n := 8) (vu v j) (by first | rfl | assumption) (by first | rfl | assumption) (by omega) (by first | omega | (simp [st2]; done) | (simp [st2]; omega)) (by first | omega | (simp [st2]; done) | (simp [st2]; omega)) dX6_draw_164 ?_
      refine g_lload rfl dX6_draw_165 ?_
      refine g_aload_n rfl dX6_draw_167 ?_
      refine gf_X6_39 (c2 := 6) rfl rfl (by first | rfl | assumption) dX6_draw_168 ?_
      refine g_iload rfl dX6_draw_171 ?_
      refine g_iald (n := 8) (vu v j) (by first | rfl | assumption) (by first | rfl | assumption) (by omega) (by first | omega | (simp [st2]; done) | (simp [st2]; omega)) (by first | omega | (simp [st2]; done) | (simp [st2]; omega)) dX6_draw_173 ?_
      rw [zA2]
      refine g_i2l (by first | omega | (simp [st2]; done) | (simp [st2]; omega)) dX6_draw_174 ?_
      refine g_ladd dX6_draw_175 ?_
      refine g_lstore (by decide) dX6_draw_176 ?_
      refine g_lload rfl dX6_draw_178 ?_
      refine g_aload_n rfl dX6_draw_180 ?_
      refine gf_X6_42 (c2 := 7) rfl rfl (by first | rfl | assumption) dX6_draw_181 ?_
      refine g_iload rfl dX6_draw_184 ?_
      refine g_iald (n := 8) (vu v j) (by first | rfl | assumption) (by first | rfl | assumption) (by omega) (by first | omega | (simp [st2]; done) | (simp [st2]; omega)) (by first | omega | (simp [st2]; done) | (simp [st2]; omega)) dX6_draw_186 ?_
      rw [zB2]
      refine g_i2l (by first | omega | (simp [st2]; done) | (simp [st2]; omega)) dX6_draw_187 ?_
      refine g_ladd dX6_draw_188 ?_
      refine g_lstore (by decide) dX6_draw_189 ?_
      refine g_iinc rfl (by decide) dX6_draw_191 ?_
      refine g_goto (t := 99) dX6_draw_194 (by decide) ?_
      refine g_subl [(0, vR 23), (1, vR 5), (2, vR 9), (3, vR 8), (4, vJ (ps (vA v) (vu v) (j + 1))), (6, vJ (ps (vB v) (vu v) (j + 1))), (8, vI ((j + 1 : Nat) : Int))] rfl ?_
      exact ih (j + 1) (by omega) (by omega) _ (drB_s hf (by omega) hd)
  have loop1 : ∀ i, i ≤ vn v → ∀ X2, DrA X 23 v (va v) i X2 → G l g mX6_draw κ K 25 [(0, vR 23), (1, vR 5), (2, vR 9), (3, vR 8), (4, vJ (ps (vA v) (va v) i)), (6, vJ (ps (vB v) (va v) i)), (8, vI (i : Int))] [] X2 := by
    refine upTo (vn v) ?_
    intro i hi ih X2 hd
    have z0 : X2 23 0 = (vn v : Int) := hd.2.1
    refine g_iload rfl dX6_draw_25 ?_
    refine g_aload_n rfl dX6_draw_27 ?_
    refine gf_X6_34 rfl (by first | rfl | assumption) dX6_draw_28 ?_
    refine g_icmp_ge (t := 90) dX6_draw_31 (by decide) (by first | omega | (simp [st2]; done) | (simp [st2]; omega)) (by first | omega | (simp [st2]; done) | (simp [st2]; omega)) (fun b31 => ?_) (fun b31 => ?_)
    · refine g_lconst rfl dX6_draw_90 ?_
      refine g_lstore (by decide) dX6_draw_91 ?_
      refine g_lconst rfl dX6_draw_93 ?_
      refine g_lstore (by decide) dX6_draw_94 ?_
      refine g_iconst dX6_draw_96 ?_
      refine g_istore (by decide) dX6_draw_97 ?_
      obtain rfl : i = vn v := by omega
      refine g_subl [(0, vR 23), (1, vR 5), (2, vR 9), (3, vR 8), (4, vJ (ps (vA v) (vu v) 0)), (6, vJ (ps (vB v) (vu v) 0)), (8, vI ((0 : Nat) : Int))] rfl ?_
      exact loop2 0 (by omega) _ (drB_0 hf hh hd)
    · have hhi := hh.1 i (by omega)
      have q2 := hv.2.2.2.1 _ hhi
      have zo : X2 8 i = (va v i : Int) := by rw [hd.1 8 i (by omega)]; exact xH i (by omega)
      have zA : ∀ w u : Int, (st2 (st2 X2 27 (va v i) w) 28 (va v i) u) 6 (va v i) = vA v (va v i) := fun w u => by
        show X2 6 (va v i) = _
        rw [hd.1 6 _ (by omega)]; exact (xA _ hhi).1
      have zB : ∀ w u : Int, (st2 (st2 X2 27 (va v i) w) 28 (va v i) u) 7 (va v i) = vB v (va v i) := fun w u => by
        show X2 7 (va v i) = _
        rw [hd.1 7 _ (by omega)]; exact (xA _ hhi).2
      refine g_aload_n rfl dX6_draw_34 ?_
      refine g_iload rfl dX6_draw_35 ?_
      refine g_iald (n := 8) (_) (by first | rfl | assumption) (by first | rfl | assumption) rfl (by first | omega | (simp [st2]; done) | (simp [st2]; omega)) (by first | omega | (simp [st2]; done) | (simp [st2]; omega)) dX6_draw_37 ?_
      rw [zo]
      refine g_istore (by decide) dX6_draw_38 ?_
      refine g_aload_n rfl dX6_draw_40 ?_
      refine gf_X6_22 (c2 := 27) rfl rfl (by first | rfl | assumption) dX6_draw_41 ?_
      refine g_iload rfl dX6_draw_44 ?_
      refine g_lload rfl dX6_draw_46 ?_
      refine g_last (n := 8) (va v i) (by first | rfl | assumption) (by first | rfl | assumption) (by omega) (by first | omega | (simp [st2]; done) | (simp [st2]; omega)) (by first | omega | (simp [st2]; done) | (simp [st2]; omega)) dX6_draw_48 ?_
      refine g_aload_n rfl dX6_draw_49 ?_
      refine gf_X6_25 (c2 := 28) rfl rfl (by first | rfl | assumption) dX6_draw_50 ?_
      refine g_iload rfl dX6_draw_53 ?_
      refine g_lload rfl dX6_draw_55 ?_
      refine g_last (n := 8) (va v i) (by first | rfl | assumption) (by first | rfl | assumption) (by omega) (by first | omega | (simp [st2]; done) | (simp [st2]; omega)) (by first | omega | (simp [st2]; done) | (simp [st2]; omega)) dX6_draw_57 ?_
      refine g_lload rfl dX6_draw_58 ?_
      refine g_aload_n rfl dX6_draw_60 ?_
      refine gf_X6_39 (c2 := 6) rfl rfl (by first | rfl | assumption) dX6_draw_61 ?_
      refine g_iload rfl dX6_draw_64 ?_
      refine g_iald (n := 8) (va v i) (by first | rfl | assumption) (by first | rfl | assumption) (by omega) (by first | omega | (simp [st2]; done) | (simp [st2]; omega)) (by first | omega | (simp [st2]; done) | (simp [st2]; omega)) dX6_draw_66 ?_
      rw [zA]
      refine g_i2l (by first | omega | (simp [st2]; done) | (simp [st2]; omega)) dX6_draw_67 ?_
      refine g_ladd dX6_draw_68 ?_
      refine g_lstore (by decide) dX6_draw_69 ?_
      refine g_lload rfl dX6_draw_71 ?_
      refine g_aload_n rfl dX6_draw_73 ?_
      refine gf_X6_42 (c2 := 7) rfl rfl (by first | rfl | assumption) dX6_draw_74 ?_
      refine g_iload rfl dX6_draw_77 ?_
      refine g_iald (n := 8) (va v i) (by first | rfl | assumption) (by first | rfl | assumption) (by omega) (by first | omega | (simp [st2]; done) | (simp [st2]; omega)) (by first | omega | (simp [st2]; done) | (simp [st2]; omega)) dX6_draw_79 ?_
      rw [zB]
      refine g_i2l (by first | omega | (simp [st2]; done) | (simp [st2]; omega)) dX6_draw_80 ?_
      refine g_ladd dX6_draw_81 ?_
      refine g_lstore (by decide) dX6_draw_82 ?_
      refine g_iinc rfl (by decide) dX6_draw_84 ?_
      refine g_goto (t := 25) dX6_draw_87 (by decide) ?_
      refine g_subl [(0, vR 23), (1, vR 5), (2, vR 9), (3, vR 8), (4, vJ (ps (vA v) (va v) (i + 1))), (6, vJ (ps (vB v) (va v) (i + 1))), (8, vI ((i + 1 : Nat) : Int))] rfl ?_
      exact ih (i + 1) (by omega) (by omega) _ (drA_s hh (by omega) hd)
  refine g_aload_n rfl dX6_draw_0 ?_
  refine g_aload_n rfl dX6_draw_1 ?_
  refine gf_X6_28 rfl (by first | rfl | assumption) dX6_draw_2 ?_
  refine pf_X6_34 rfl (by first | rfl | assumption) dX6_draw_5 ?_
  refine g_aload_n rfl dX6_draw_8 ?_
  refine g_aload_n rfl dX6_draw_9 ?_
  refine gf_X6_35 rfl (by first | rfl | assumption) dX6_draw_10 ?_
  refine pf_X6_38 rfl (by first | rfl | assumption) dX6_draw_13 ?_
  refine g_lconst rfl dX6_draw_16 ?_
  refine g_lstore (by decide) dX6_draw_17 ?_
  refine g_lconst rfl dX6_draw_19 ?_
  refine g_lstore (by decide) dX6_draw_20 ?_
  refine g_iconst dX6_draw_22 ?_
  refine g_istore (by decide) dX6_draw_23 ?_
  refine g_subl [(0, vR 23), (1, vR 5), (2, vR 9), (3, vR 8), (4, vJ (ps (vA v) (va v) 0)), (6, vJ (ps (vB v) (va v) 0)), (8, vI ((0 : Nat) : Int))] rfl ?_
  refine loop1 0 (by omega) _ ⟨fun d k hd => ?_, hX.1, hX.2.1, fun q hq => absurd hq (by omega)⟩
  have z : d ≠ 23 := by omega
  simp only [st2, if_neg z]
/-! the class's places -/
theorem ct_X6_isLeftOf_17 {l : Launch} {g : Geo} {X : Mm} {K : AV → Mm → Prop} {v : Mv} {a b : Int} {j : Nat} (hW : WayC X 17 v (va v) (vu v)) (hv : Vd v) (hf : Perm (va v) (vn v)) (hj : j ≤ vn v) (hb : pB a b) (hr0 : vr v = 0 → b = 0) (hk : K (vI (if val (vr v) a b < ps (vL v) (va v) j then 1 else 0)) X) : Ct l g mX6_isLeftOf [vR 17, vJ a, vJ b, vI (j : Int)] X K := by
  refine enter (by decide) (Nat.le_of_ble_eq_true rfl) (fun κ => ?_)
  have hn8 := hv.2.1
  have q4 := hv.psA hf hj
  have hb2 := hb
  unfold pB at hb2
  have w1 : X 17 1 = vr v := hW.2.1
  have w2 : X 19 j = ps (vA v) (va v) j := (hW.2.2.2 j hj).1
  have w3 : X 20 j = ps (vB v) (va v) j := (hW.2.2.2 j hj).2
  have hsg := pt_sgn hv hf hb hr0 hj
  refine g_lload_n rfl dX6_isLeftOf_0 ?_
  refine g_aload_n rfl dX6_isLeftOf_1 ?_
  refine gf_X6_15 (c2 := 19) rfl rfl (by first | rfl | assumption) dX6_isLeftOf_2 ?_
  refine g_iload rfl dX6_isLeftOf_5 ?_
  refine g_lald (n := 9) (_) (by first | rfl | assumption) (by first | rfl | assumption) rfl (by first | omega | (simp [st2]; done) | (simp [st2]; omega)) (by first | omega | (simp [st2]; done) | (simp [st2]; omega)) dX6_isLeftOf_7 ?_
  refine g_lsub dX6_isLeftOf_8 ?_
  refine g_lload_n rfl dX6_isLeftOf_9 ?_
  refine g_aload_n rfl dX6_isLeftOf_10 ?_
  refine gf_X6_19 (c2 := 20) rfl rfl (by first | rfl | assumption) dX6_isLeftOf_11 ?_
  refine g_iload rfl dX6_isLeftOf_14 ?_
  refine g_lald (n := 9) (_) (by first | rfl | assumption) (by first | rfl | assumption) rfl (by first | omega | (simp [st2]; done) | (simp [st2]; omega)) (by first | omega | (simp [st2]; done) | (simp [st2]; omega)) dX6_isLeftOf_16 ?_
  refine g_lsub dX6_isLeftOf_17 ?_
  refine g_aload_n rfl dX6_isLeftOf_18 ?_
  refine gf_X6_38 rfl (by first | rfl | assumption) dX6_isLeftOf_19 ?_
  rw [w1, w2, w3]
  refine g_cn3 (M2 := mX7_signOf) dX6_isLeftOf_22 nest1 kX7_signOf (by decide) (by unfold Rm; decide) (Nat.le_of_ble_eq_true rfl) (ct_X7_signOf hv.2.2.1 (by omega) (by omega) ?_)
  refine g_if_ge (t := 32) dX6_isLeftOf_25 (by decide) (by first | omega | (simp [st2]; done) | (simp [st2]; omega)) (fun b25 => ?_) (fun b25 => ?_)
  · refine g_iconst dX6_isLeftOf_32 ?_
    refine g_zreturn rfl (by omega) dX6_isLeftOf_33 ?_
    refine kE hk ?_
    split <;> omega
  · refine g_iconst dX6_isLeftOf_28 ?_
    refine g_goto (t := 33) dX6_isLeftOf_29 (by decide) ?_
    refine g_zreturn rfl (by omega) dX6_isLeftOf_33 ?_
    refine kE hk ?_
    split <;> omega
set_option maxRecDepth 100000 in
set_option maxHeartbeats 4000000 in
theorem ct_X6_covers_17 {l : Launch} {g : Geo} {X : Mm} {K : AV → Mm → Prop} {v : Mv} {a b : Int} (hW : WayC X 17 v (va v) (vu v)) (hv : Vd v) (hf : Perm (va v) (vn v)) (hb : pB a b) (hr0 : vr v = 0 → b = 0) (h1 : onL v a b → K (vI 1) X) (h0 : ¬ onL v a b → K (vI 0) X) : Ct l g mX6_covers [vR 17, vJ a, vJ b] X K := by
  refine enter (by decide) (Nat.le_of_ble_eq_true rfl) (fun κ => ?_)
  have hn8 := hv.2.1
  have hb2 := hb
  unfold pB at hb2
  have w0 : X 17 0 = (vn v : Int) := hW.1
  have w1 : X 17 1 = vr v := hW.2.1
  have hsg := sgn_neg (r := vr v) (a := a) (b := b) hv.2.2.1 hr0 (by omega) (by omega)
  have ht := hv.tot hf
  unfold onL at h0 h1
  refine g_lload_n rfl dX6_covers_0 ?_
  refine g_lload_n rfl dX6_covers_1 ?_
  refine g_aload_n rfl dX6_covers_2 ?_
  refine gf_X6_38 rfl (by first | rfl | assumption) dX6_covers_3 ?_
  rw [w1]
  refine g_cn3 (M2 := mX7_signOf) dX6_covers_6 nest1 kX7_signOf (by decide) (by unfold Rm; decide) (Nat.le_of_ble_eq_true rfl) (ct_X7_signOf hv.2.2.1 (by omega) (by omega) ?_)
  refine g_if_lt (t := 29) dX6_covers_9 (by decide) (by first | omega | (simp [st2]; done) | (simp [st2]; omega)) (fun b9 => ?_) (fun b9 => ?_)
  · refine g_iconst dX6_covers_29 ?_
    refine g_zreturn rfl (by omega) dX6_covers_30 ?_
    first | exact h1 (by omega) | exact h0 (by omega)
  · refine g_aload_n rfl dX6_covers_12 ?_
    refine g_lload_n rfl dX6_covers_13 ?_
    refine g_lload_n rfl dX6_covers_14 ?_
    refine g_aload_n rfl dX6_covers_15 ?_
    refine gf_X6_34 rfl (by first | rfl | assumption) dX6_covers_16 ?_
    rw [w0]
    refine g_cv3 (M2 := mX6_isLeftOf) (ci := 6) dX6_covers_19 ml_RX6_49 kX6_isLeftOf (by decide) (by first | rfl | assumption) (by decide) rfl (by unfold Rm; decide) (Nat.le_of_ble_eq_true rfl) (ct_X6_isLeftOf_17 hW hv hf (Nat.le_refl _) hb hr0 ?_)
    refine g_if_eq (t := 29) dX6_covers_22 (by decide) (by first | omega | (simp [st2]; done) | (simp [st2]; omega)) (fun b22 => ?_) (fun b22 => ?_)
    · refine g_iconst dX6_covers_29 ?_
      refine g_zreturn rfl (by omega) dX6_covers_30 ?_
      first | exact h1 (by omega) | exact h0 (by omega)
    · refine g_iconst dX6_covers_25 ?_
      refine g_goto (t := 30) dX6_covers_26 (by decide) ?_
      refine g_zreturn rfl (by omega) dX6_covers_30 ?_
      first | exact h1 (by omega) | exact h0 (by omega)
theorem ct_X6_isLeftOf_23 {l : Launch} {g : Geo} {X : Mm} {K : AV → Mm → Prop} {v : Mv} {a b : Int} {j : Nat} (hW : WayC X 23 v (vu v) (va v)) (hv : Vd v) (hf : Perm (vu v) (vn v)) (hj : j ≤ vn v) (hb : pB a b) (hr0 : vr v = 0 → b = 0) (hk : K (vI (if val (vr v) a b < ps (vL v) (vu v) j then 1 else 0)) X) : Ct l g mX6_isLeftOf [vR 23, vJ a, vJ b, vI (j : Int)] X K := by
  refine enter (by decide) (Nat.le_of_ble_eq_true rfl) (fun κ => ?_)
  have hn8 := hv.2.1
  have q4 := hv.psA hf hj
  have hb2 := hb
  unfold pB at hb2
  have w1 : X 23 1 = vr v := hW.2.1
  have w2 : X 25 j = ps (vA v) (vu v) j := (hW.2.2.2 j hj).1
  have w3 : X 26 j = ps (vB v) (vu v) j := (hW.2.2.2 j hj).2
  have hsg := pt_sgn hv hf hb hr0 hj
  refine g_lload_n rfl dX6_isLeftOf_0 ?_
  refine g_aload_n rfl dX6_isLeftOf_1 ?_
  refine gf_X6_15 (c2 := 25) rfl rfl (by first | rfl | assumption) dX6_isLeftOf_2 ?_
  refine g_iload rfl dX6_isLeftOf_5 ?_
  refine g_lald (n := 9) (_) (by first | rfl | assumption) (by first | rfl | assumption) rfl (by first | omega | (simp [st2]; done) | (simp [st2]; omega)) (by first | omega | (simp [st2]; done) | (simp [st2]; omega)) dX6_isLeftOf_7 ?_
  refine g_lsub dX6_isLeftOf_8 ?_
  refine g_lload_n rfl dX6_isLeftOf_9 ?_
  refine g_aload_n rfl dX6_isLeftOf_10 ?_
  refine gf_X6_19 (c2 := 26) rfl rfl (by first | rfl | assumption) dX6_isLeftOf_11 ?_
  refine g_iload rfl dX6_isLeftOf_14 ?_
  refine g_lald (n := 9) (_) (by first | rfl | assumption) (by first | rfl | assumption) rfl (by first | omega | (simp [st2]; done) | (simp [st2]; omega)) (by first | omega | (simp [st2]; done) | (simp [st2]; omega)) dX6_isLeftOf_16 ?_
  refine g_lsub dX6_isLeftOf_17 ?_
  refine g_aload_n rfl dX6_isLeftOf_18 ?_
  refine gf_X6_38 rfl (by first | rfl | assumption) dX6_isLeftOf_19 ?_
  rw [w1, w2, w3]
  refine g_cn3 (M2 := mX7_signOf) dX6_isLeftOf_22 nest1 kX7_signOf (by decide) (by unfold Rm; decide) (Nat.le_of_ble_eq_true rfl) (ct_X7_signOf hv.2.2.1 (by omega) (by omega) ?_)
  refine g_if_ge (t := 32) dX6_isLeftOf_25 (by decide) (by first | omega | (simp [st2]; done) | (simp [st2]; omega)) (fun b25 => ?_) (fun b25 => ?_)
  · refine g_iconst dX6_isLeftOf_32 ?_
    refine g_zreturn rfl (by omega) dX6_isLeftOf_33 ?_
    refine kE hk ?_
    split <;> omega
  · refine g_iconst dX6_isLeftOf_28 ?_
    refine g_goto (t := 33) dX6_isLeftOf_29 (by decide) ?_
    refine g_zreturn rfl (by omega) dX6_isLeftOf_33 ?_
    refine kE hk ?_
    split <;> omega
set_option maxRecDepth 100000 in
set_option maxHeartbeats 4000000 in
theorem ct_X6_covers_23 {l : Launch} {g : Geo} {X : Mm} {K : AV → Mm → Prop} {v : Mv} {a b : Int} (hW : WayC X 23 v (vu v) (va v)) (hv : Vd v) (hf : Perm (vu v) (vn v)) (hb : pB a b) (hr0 : vr v = 0 → b = 0) (h1 : onL v a b → K (vI 1) X) (h0 : ¬ onL v a b → K (vI 0) X) : Ct l g mX6_covers [vR 23, vJ a, vJ b] X K := by
  refine enter (by decide) (Nat.le_of_ble_eq_true rfl) (fun κ => ?_)
  have hn8 := hv.2.1
  have hb2 := hb
  unfold pB at hb2
  have w0 : X 23 0 = (vn v : Int) := hW.1
  have w1 : X 23 1 = vr v := hW.2.1
  have hsg := sgn_neg (r := vr v) (a := a) (b := b) hv.2.2.1 hr0 (by omega) (by omega)
  have ht := hv.tot hf
  unfold onL at h0 h1
  refine g_lload_n rfl dX6_covers_0 ?_
  refine g_lload_n rfl dX6_covers_1 ?_
  refine g_aload_n rfl dX6_covers_2 ?_
  refine gf_X6_38 rfl (by first | rfl | assumption) dX6_covers_3 ?_
  rw [w1]
  refine g_cn3 (M2 := mX7_signOf) dX6_covers_6 nest1 kX7_signOf (by decide) (by unfold Rm; decide) (Nat.le_of_ble_eq_true rfl) (ct_X7_signOf hv.2.2.1 (by omega) (by omega) ?_)
  refine g_if_lt (t := 29) dX6_covers_9 (by decide) (by first | omega | (simp [st2]; done) | (simp [st2]; omega)) (fun b9 => ?_) (fun b9 => ?_)
  · refine g_iconst dX6_covers_29 ?_
    refine g_zreturn rfl (by omega) dX6_covers_30 ?_
    first | exact h1 (by omega) | exact h0 (by omega)
  · refine g_aload_n rfl dX6_covers_12 ?_
    refine g_lload_n rfl dX6_covers_13 ?_
    refine g_lload_n rfl dX6_covers_14 ?_
    refine g_aload_n rfl dX6_covers_15 ?_
    refine gf_X6_34 rfl (by first | rfl | assumption) dX6_covers_16 ?_
    rw [w0]
    refine g_cv3 (M2 := mX6_isLeftOf) (ci := 6) dX6_covers_19 ml_RX6_49 kX6_isLeftOf (by decide) (by first | rfl | assumption) (by decide) rfl (by unfold Rm; decide) (Nat.le_of_ble_eq_true rfl) (ct_X6_isLeftOf_23 hW hv hf (Nat.le_refl _) hb hr0 ?_)
    refine g_if_eq (t := 29) dX6_covers_22 (by decide) (by first | omega | (simp [st2]; done) | (simp [st2]; omega)) (fun b22 => ?_) (fun b22 => ?_)
    · refine g_iconst dX6_covers_29 ?_
      refine g_zreturn rfl (by omega) dX6_covers_30 ?_
      first | exact h1 (by omega) | exact h0 (by omega)
    · refine g_iconst dX6_covers_25 ?_
      refine g_goto (t := 30) dX6_covers_26 (by decide) ?_
      refine g_zreturn rfl (by omega) dX6_covers_30 ?_
      first | exact h1 (by omega) | exact h0 (by omega)
set_option maxRecDepth 100000 in
set_option maxHeartbeats 4000000 in
theorem ct_X6_spanAt_17_29 {l : Launch} {g : Geo} {X : Mm} {K : AV → Mm → Prop} {v : Mv} {a b : Int} (hW : WayC X 17 v (va v) (vu v)) (hv : Vd v) (hf : Perm (va v) (vn v)) (ha : X 29 1 = a) (hb : X 29 2 = b) (hp : ptOk v a b) (hk : K (vI (va v (sidx v (va v) (val (vr v) a b)) : Int)) X) : Ct l g mX6_spanAt [vR 17, vR 29] X K := by
  refine enter (by decide) (Nat.le_of_ble_eq_true rfl) (fun κ => ?_)
  have hn8 := hv.2.1
  have hn2 := hv.1
  have w0 : X 17 0 = (vn v : Int) := hW.1
  have hsp := sidx_spec hp.2.2.1 (by rw [hv.tot hf]; exact hp.2.2.2)
  have loop : ∀ i : Nat, i ≤ vn v - 1 → sidx v (va v) (val (vr v) a b) = srch (fun j => decide (val (vr v) a b < ps (vL v) (va v) (j + 1))) i (vn v) → G l g mX6_spanAt κ K 2 [(0, vR 17), (1, vR 29), (2, vI (i : Int))] [] X := by
    refine upTo (vn v - 1) ?_
    intro i hi ih hs
    have w3 : X 18 i = (va v i : Int) := (hW.2.2.1 i (by omega)).1
    refine g_iload_n rfl dX6_spanAt_2 ?_
    refine g_aload_n rfl dX6_spanAt_3 ?_
    refine gf_X6_34 rfl (by first | rfl | assumption) dX6_spanAt_4 ?_
    refine g_iconst dX6_spanAt_7 ?_
    refine g_isub dX6_spanAt_8 ?_
    refine g_icmp_ge (t := 36) dX6_spanAt_9 (by decide) (by first | omega | (simp [st2]; done) | (simp [st2]; omega)) (by first | omega | (simp [st2]; done) | (simp [st2]; omega)) (fun b9 => ?_) (fun b9 => ?_)
    · refine g_aload_n rfl dX6_spanAt_36 ?_
      refine gf_X6_9 (c2 := 18) rfl rfl (by first | rfl | assumption) dX6_spanAt_37 ?_
      refine g_iload_n rfl dX6_spanAt_40 ?_
      refine g_iald (n := 8) (_) (by first | rfl | assumption) (by first | rfl | assumption) rfl (by first | omega | (simp [st2]; done) | (simp [st2]; omega)) (by first | omega | (simp [st2]; done) | (simp [st2]; omega)) dX6_spanAt_41 ?_
      refine g_ireturn rfl dX6_spanAt_42 ?_
      have e : sidx v (va v) (val (vr v) a b) = i := by
        first
          | (have hq : (fun j => decide (val (vr v) a b < ps (vL v) (va v) (j + 1))) i = true := by
               simp only [decide_eq_true_eq]
               omega
             rw [hs, srch_hit (p := fun j => decide (val (vr v) a b < ps (vL v) (va v) (j + 1))) (by omega) hq])
          | (have h5 := srch_spec (fun j => decide (val (vr v) a b < ps (vL v) (va v) (j + 1))) (n := vn v) i (by omega)
             omega)
      rw [e] at hk
      exact kE hk w3.symm
    · refine g_aload_n rfl dX6_spanAt_12 ?_
      refine g_aload_n rfl dX6_spanAt_13 ?_
      refine gf_X6_53 rfl (by first | rfl | assumption) dX6_spanAt_14 ?_
      refine g_aload_n rfl dX6_spanAt_17 ?_
      refine gf_X6_59 rfl (by first | rfl | assumption) dX6_spanAt_18 ?_
      refine g_iload_n rfl dX6_spanAt_21 ?_
      refine g_iconst dX6_spanAt_22 ?_
      refine g_iadd dX6_spanAt_23 ?_
      rw [ha, hb, show (i : Int) + 1 = ((i + 1 : Nat) : Int) from rfl]
      refine g_cv3 (M2 := mX6_isLeftOf) (ci := 6) dX6_spanAt_24 ml_RX6_49 kX6_isLeftOf (by decide) (by first | rfl | assumption) (by decide) rfl (by unfold Rm; decide) (Nat.le_of_ble_eq_true rfl) (ct_X6_isLeftOf_17 hW hv hf (by omega) hp.1 hp.2.1 ?_)
      refine g_if_ne (t := 36) dX6_spanAt_27 (by decide) (by first | omega | (simp [st2]; done) | (simp [st2]; omega)) (fun b27 => ?_) (fun b27 => ?_)
      · refine g_aload_n rfl dX6_spanAt_36 ?_
        refine gf_X6_9 (c2 := 18) rfl rfl (by first | rfl | assumption) dX6_spanAt_37 ?_
        refine g_iload_n rfl dX6_spanAt_40 ?_
        refine g_iald (n := 8) (_) (by first | rfl | assumption) (by first | rfl | assumption) rfl (by first | omega | (simp [st2]; done) | (simp [st2]; omega)) (by first | omega | (simp [st2]; done) | (simp [st2]; omega)) dX6_spanAt_41 ?_
        refine g_ireturn rfl dX6_spanAt_42 ?_
        have e : sidx v (va v) (val (vr v) a b) = i := by
          first
            | (have hq : (fun j => decide (val (vr v) a b < ps (vL v) (va v) (j + 1))) i = true := by
                 simp only [decide_eq_true_eq]
                 omega
               rw [hs, srch_hit (p := fun j => decide (val (vr v) a b < ps (vL v) (va v) (j + 1))) (by omega) hq])
            | (have h5 := srch_spec (fun j => decide (val (vr v) a b < ps (vL v) (va v) (j + 1))) (n := vn v) i (by omega)
               omega)
        rw [e] at hk
        exact kE hk w3.symm
      · refine g_iinc rfl (by decide) dX6_spanAt_30 ?_
        refine g_goto (t := 2) dX6_spanAt_33 (by decide) ?_
        have hq : ¬ (fun j => decide (val (vr v) a b < ps (vL v) (va v) (j + 1))) i = true := by
          simp only [decide_eq_true_eq]
          omega
        rw [srch_miss (p := fun j => decide (val (vr v) a b < ps (vL v) (va v) (j + 1))) (by omega) hq] at hs
        refine g_subl [(0, vR 17), (1, vR 29), (2, vI ((i + 1 : Nat) : Int))] rfl ?_
        exact ih (i + 1) (by omega) (by omega) hs
  refine g_iconst dX6_spanAt_0 ?_
  refine g_istore_n (by decide) dX6_spanAt_1 ?_
  refine g_subl [(0, vR 17), (1, vR 29), (2, vI ((0 : Nat) : Int))] rfl ?_
  exact loop 0 (by omega) rfl
set_option maxRecDepth 100000 in
set_option maxHeartbeats 4000000 in
theorem ct_X6_spanAt_17_30 {l : Launch} {g : Geo} {X : Mm} {K : AV → Mm → Prop} {v : Mv} {a b : Int} (hW : WayC X 17 v (va v) (vu v)) (hv : Vd v) (hf : Perm (va v) (vn v)) (ha : X 30 1 = a) (hb : X 30 2 = b) (hp : ptOk v a b) (hk : K (vI (va v (sidx v (va v) (val (vr v) a b)) : Int)) X) : Ct l g mX6_spanAt [vR 17, vR 30] X K := by
  refine enter (by decide) (Nat.le_of_ble_eq_true rfl) (fun κ => ?_)
  have hn8 := hv.2.1
  have hn2 := hv.1
  have w0 : X 17 0 = (vn v : Int) := hW.1
  have hsp := sidx_spec hp.2.2.1 (by rw [hv.tot hf]; exact hp.2.2.2)
  have loop : ∀ i : Nat, i ≤ vn v - 1 → sidx v (va v) (val (vr v) a b) = srch (fun j => decide (val (vr v) a b < ps (vL v) (va v) (j + 1))) i (vn v) → G l g mX6_spanAt κ K 2 [(0, vR 17), (1, vR 30), (2, vI (i : Int))] [] X := by
    refine upTo (vn v - 1) ?_
    intro i hi ih hs
    have w3 : X 18 i = (va v i : Int) := (hW.2.2.1 i (by omega)).1
    refine g_iload_n rfl dX6_spanAt_2 ?_
    refine g_aload_n rfl dX6_spanAt_3 ?_
    refine gf_X6_34 rfl (by first | rfl | assumption) dX6_spanAt_4 ?_
    refine g_iconst dX6_spanAt_7 ?_
    refine g_isub dX6_spanAt_8 ?_
    refine g_icmp_ge (t := 36) dX6_spanAt_9 (by decide) (by first | omega | (simp [st2]; done) | (simp [st2]; omega)) (by first | omega | (simp [st2]; done) | (simp [st2]; omega)) (fun b9 => ?_) (fun b9 => ?_)
    · refine g_aload_n rfl dX6_spanAt_36 ?_
      refine gf_X6_9 (c2 := 18) rfl rfl (by first | rfl | assumption) dX6_spanAt_37 ?_
      refine g_iload_n rfl dX6_spanAt_40 ?_
      refine g_iald (n := 8) (_) (by first | rfl | assumption) (by first | rfl | assumption) rfl (by first | omega | (simp [st2]; done) | (simp [st2]; omega)) (by first | omega | (simp [st2]; done) | (simp [st2]; omega)) dX6_spanAt_41 ?_
      refine g_ireturn rfl dX6_spanAt_42 ?_
      have e : sidx v (va v) (val (vr v) a b) = i := by
        first
          | (have hq : (fun j => decide (val (vr v) a b < ps (vL v) (va v) (j + 1))) i = true := by
               simp only [decide_eq_true_eq]
               omega
             rw [hs, srch_hit (p := fun j => decide (val (vr v) a b < ps (vL v) (va v) (j + 1))) (by omega) hq])
          | (have h5 := srch_spec (fun j => decide (val (vr v) a b < ps (vL v) (va v) (j + 1))) (n := vn v) i (by omega)
             omega)
      rw [e] at hk
      exact kE hk w3.symm
    · refine g_aload_n rfl dX6_spanAt_12 ?_
      refine g_aload_n rfl dX6_spanAt_13 ?_
      refine gf_X6_53 rfl (by first | rfl | assumption) dX6_spanAt_14 ?_
      refine g_aload_n rfl dX6_spanAt_17 ?_
      refine gf_X6_59 rfl (by first | rfl | assumption) dX6_spanAt_18 ?_
      refine g_iload_n rfl dX6_spanAt_21 ?_
      refine g_iconst dX6_spanAt_22 ?_
      refine g_iadd dX6_spanAt_23 ?_
      rw [ha, hb, show (i : Int) + 1 = ((i + 1 : Nat) : Int) from rfl]
      refine g_cv3 (M2 := mX6_isLeftOf) (ci := 6) dX6_spanAt_24 ml_RX6_49 kX6_isLeftOf (by decide) (by first | rfl | assumption) (by decide) rfl (by unfold Rm; decide) (Nat.le_of_ble_eq_true rfl) (ct_X6_isLeftOf_17 hW hv hf (by omega) hp.1 hp.2.1 ?_)
      refine g_if_ne (t := 36) dX6_spanAt_27 (by decide) (by first | omega | (simp [st2]; done) | (simp [st2]; omega)) (fun b27 => ?_) (fun b27 => ?_)
      · refine g_aload_n rfl dX6_spanAt_36 ?_
        refine gf_X6_9 (c2 := 18) rfl rfl (by first | rfl | assumption) dX6_spanAt_37 ?_
        refine g_iload_n rfl dX6_spanAt_40 ?_
        refine g_iald (n := 8) (_) (by first | rfl | assumption) (by first | rfl | assumption) rfl (by first | omega | (simp [st2]; done) | (simp [st2]; omega)) (by first | omega | (simp [st2]; done) | (simp [st2]; omega)) dX6_spanAt_41 ?_
        refine g_ireturn rfl dX6_spanAt_42 ?_
        have e : sidx v (va v) (val (vr v) a b) = i := by
          first
            | (have hq : (fun j => decide (val (vr v) a b < ps (vL v) (va v) (j + 1))) i = true := by
                 simp only [decide_eq_true_eq]
                 omega
               rw [hs, srch_hit (p := fun j => decide (val (vr v) a b < ps (vL v) (va v) (j + 1))) (by omega) hq])
            | (have h5 := srch_spec (fun j => decide (val (vr v) a b < ps (vL v) (va v) (j + 1))) (n := vn v) i (by omega)
               omega)
        rw [e] at hk
        exact kE hk w3.symm
      · refine g_iinc rfl (by decide) dX6_spanAt_30 ?_
        refine g_goto (t := 2) dX6_spanAt_33 (by decide) ?_
        have hq : ¬ (fun j => decide (val (vr v) a b < ps (vL v) (va v) (j + 1))) i = true := by
          simp only [decide_eq_true_eq]
          omega
        rw [srch_miss (p := fun j => decide (val (vr v) a b < ps (vL v) (va v) (j + 1))) (by omega) hq] at hs
        refine g_subl [(0, vR 17), (1, vR 30), (2, vI ((i + 1 : Nat) : Int))] rfl ?_
        exact ih (i + 1) (by omega) (by omega) hs
  refine g_iconst dX6_spanAt_0 ?_
  refine g_istore_n (by decide) dX6_spanAt_1 ?_
  refine g_subl [(0, vR 17), (1, vR 30), (2, vI ((0 : Nat) : Int))] rfl ?_
  exact loop 0 (by omega) rfl
set_option maxRecDepth 100000 in
set_option maxHeartbeats 4000000 in
theorem ct_X6_spanAt_23_30 {l : Launch} {g : Geo} {X : Mm} {K : AV → Mm → Prop} {v : Mv} {a b : Int} (hW : WayC X 23 v (vu v) (va v)) (hv : Vd v) (hf : Perm (vu v) (vn v)) (ha : X 30 1 = a) (hb : X 30 2 = b) (hp : ptOk v a b) (hk : K (vI (vu v (sidx v (vu v) (val (vr v) a b)) : Int)) X) : Ct l g mX6_spanAt [vR 23, vR 30] X K := by
  refine enter (by decide) (Nat.le_of_ble_eq_true rfl) (fun κ => ?_)
  have hn8 := hv.2.1
  have hn2 := hv.1
  have w0 : X 23 0 = (vn v : Int) := hW.1
  have hsp := sidx_spec hp.2.2.1 (by rw [hv.tot hf]; exact hp.2.2.2)
  have loop : ∀ i : Nat, i ≤ vn v - 1 → sidx v (vu v) (val (vr v) a b) = srch (fun j => decide (val (vr v) a b < ps (vL v) (vu v) (j + 1))) i (vn v) → G l g mX6_spanAt κ K 2 [(0, vR 23), (1, vR 30), (2, vI (i : Int))] [] X := by
    refine upTo (vn v - 1) ?_
    intro i hi ih hs
    have w3 : X 24 i = (vu v i : Int) := (hW.2.2.1 i (by omega)).1
    refine g_iload_n rfl dX6_spanAt_2 ?_
    refine g_aload_n rfl dX6_spanAt_3 ?_
    refine gf_X6_34 rfl (by first | rfl | assumption) dX6_spanAt_4 ?_
    refine g_iconst dX6_spanAt_7 ?_
    refine g_isub dX6_spanAt_8 ?_
    refine g_icmp_ge (t := 36) dX6_spanAt_9 (by decide) (by first | omega | (simp [st2]; done) | (simp [st2]; omega)) (by first | omega | (simp [st2]; done) | (simp [st2]; omega)) (fun b9 => ?_) (fun b9 => ?_)
    · refine g_aload_n rfl dX6_spanAt_36 ?_
      refine gf_X6_9 (c2 := 24) rfl rfl (by first | rfl | assumption) dX6_spanAt_37 ?_
      refine g_iload_n rfl dX6_spanAt_40 ?_
      refine g_iald (n := 8) (_) (by first | rfl | assumption) (by first | rfl | assumption) rfl (by first | omega | (simp [st2]; done) | (simp [st2]; omega)) (by first | omega | (simp [st2]; done) | (simp [st2]; omega)) dX6_spanAt_41 ?_
      refine g_ireturn rfl dX6_spanAt_42 ?_
      have e : sidx v (vu v) (val (vr v) a b) = i := by
        first
          | (have hq : (fun j => decide (val (vr v) a b < ps (vL v) (vu v) (j + 1))) i = true := by
               simp only [decide_eq_true_eq]
               omega
             rw [hs, srch_hit (p := fun j => decide (val (vr v) a b < ps (vL v) (vu v) (j + 1))) (by omega) hq])
          | (have h5 := srch_spec (fun j => decide (val (vr v) a b < ps (vL v) (vu v) (j + 1))) (n := vn v) i (by omega)
             omega)
      rw [e] at hk
      exact kE hk w3.symm
    · refine g_aload_n rfl dX6_spanAt_12 ?_
      refine g_aload_n rfl dX6_spanAt_13 ?_
      refine gf_X6_53 rfl (by first | rfl | assumption) dX6_spanAt_14 ?_
      refine g_aload_n rfl dX6_spanAt_17 ?_
      refine gf_X6_59 rfl (by first | rfl | assumption) dX6_spanAt_18 ?_
      refine g_iload_n rfl dX6_spanAt_21 ?_
      refine g_iconst dX6_spanAt_22 ?_
      refine g_iadd dX6_spanAt_23 ?_
      rw [ha, hb, show (i : Int) + 1 = ((i + 1 : Nat) : Int) from rfl]
      refine g_cv3 (M2 := mX6_isLeftOf) (ci := 6) dX6_spanAt_24 ml_RX6_49 kX6_isLeftOf (by decide) (by first | rfl | assumption) (by decide) rfl (by unfold Rm; decide) (Nat.le_of_ble_eq_true rfl) (ct_X6_isLeftOf_23 hW hv hf (by omega) hp.1 hp.2.1 ?_)
      refine g_if_ne (t := 36) dX6_spanAt_27 (by decide) (by first | omega | (simp [st2]; done) | (simp [st2]; omega)) (fun b27 => ?_) (fun b27 => ?_)
      · refine g_aload_n rfl dX6_spanAt_36 ?_
        refine gf_X6_9 (c2 := 24) rfl rfl (by first | rfl | assumption) dX6_spanAt_37 ?_
        refine g_iload_n rfl dX6_spanAt_40 ?_
        refine g_iald (n := 8) (_) (by first | rfl | assumption) (by first | rfl | assumption) rfl (by first | omega | (simp [st2]; done) | (simp [st2]; omega)) (by first | omega | (simp [st2]; done) | (simp [st2]; omega)) dX6_spanAt_41 ?_
        refine g_ireturn rfl dX6_spanAt_42 ?_
        have e : sidx v (vu v) (val (vr v) a b) = i := by
          first
            | (have hq : (fun j => decide (val (vr v) a b < ps (vL v) (vu v) (j + 1))) i = true := by
                 simp only [decide_eq_true_eq]
                 omega
               rw [hs, srch_hit (p := fun j => decide (val (vr v) a b < ps (vL v) (vu v) (j + 1))) (by omega) hq])
            | (have h5 := srch_spec (fun j => decide (val (vr v) a b < ps (vL v) (vu v) (j + 1))) (n := vn v) i (by omega)
               omega)
        rw [e] at hk
        exact kE hk w3.symm
      · refine g_iinc rfl (by decide) dX6_spanAt_30 ?_
        refine g_goto (t := 2) dX6_spanAt_33 (by decide) ?_
        have hq : ¬ (fun j => decide (val (vr v) a b < ps (vL v) (vu v) (j + 1))) i = true := by
          simp only [decide_eq_true_eq]
          omega
        rw [srch_miss (p := fun j => decide (val (vr v) a b < ps (vL v) (vu v) (j + 1))) (by omega) hq] at hs
        refine g_subl [(0, vR 23), (1, vR 30), (2, vI ((i + 1 : Nat) : Int))] rfl ?_
        exact ih (i + 1) (by omega) (by omega) hs
  refine g_iconst dX6_spanAt_0 ?_
  refine g_istore_n (by decide) dX6_spanAt_1 ?_
  refine g_subl [(0, vR 23), (1, vR 30), (2, vI ((0 : Nat) : Int))] rfl ?_
  exact loop 0 (by omega) rfl
theorem ct_X5_put {l : Launch} {g : Geo} {X : Mm} {K : AV → Mm → Prop} {a b : Int} {s : Nat} (hs : kd s = 5) (hk : K (vI 0) (st2 (st2 (st2 X s 0 1) s 1 a) s 2 b)) : Ct l g mX5_put [vR s, vJ a, vJ b] X K := by
  refine enter (by decide) (Nat.le_of_ble_eq_true rfl) (fun κ => ?_)
  refine g_aload_n rfl dX5_put_0 ?_
  refine g_iconst dX5_put_1 ?_
  refine pf_X5_7 (by omega) rfl (by first | rfl | assumption) dX5_put_2 ?_
  refine g_aload_n rfl dX5_put_5 ?_
  refine g_lload_n rfl dX5_put_6 ?_
  refine pf_X5_13 rfl (by first | rfl | assumption) dX5_put_7 ?_
  refine g_aload_n rfl dX5_put_10 ?_
  refine g_lload_n rfl dX5_put_11 ?_
  refine pf_X5_17 rfl (by first | rfl | assumption) dX5_put_12 ?_
  refine g_return rfl dX5_put_15 ?_
  exact hk
set_option maxRecDepth 100000 in
set_option maxHeartbeats 4000000 in
theorem ct_X6_shift_17 {l : Launch} {g : Geo} {X : Mm} {K : AV → Mm → Prop} {v : Mv} {a b : Int} (hW : WayC X 17 v (va v) (vu v)) (hv : Vd v) (hf : Perm (va v) (vn v)) (hh : Perm (vu v) (vn v)) (ha : X 30 1 = a) (hb : X 30 2 = b) (hp : ptOk v a b) (h1 : pB (gA v (va v) (vu v) a b) (gB v (va v) (vu v) a b) → K (vI 1) (st2 (st2 X 30 1 (gA v (va v) (vu v) a b)) 30 2 (gB v (va v) (vu v) a b))) (h0 : ¬ pB (gA v (va v) (vu v) a b) (gB v (va v) (vu v) a b) → K (vI 0) (st2 (st2 X 30 1 (gA v (va v) (vu v) a b)) 30 2 (gB v (va v) (vu v) a b))) : Ct l g mX6_shift [vR 17, vR 30, vI (va v (sidx v (va v) (val (vr v) a b)) : Int)] X K := by
  refine enter (by decide) (Nat.le_of_ble_eq_true rfl) (fun κ => ?_)
  have hn8 := hv.2.1
  have hsp := sidx_spec hp.2.2.1 (by rw [hv.tot hf]; exact hp.2.2.2)
  have hfj := hf.1 _ hsp.1
  have hg := go_pV hv hf hh hp.2
  have w := hW.2.2.1 _ hsp.1
  have w4 : X 21 (va v (sidx v (va v) (val (vr v) a b))) = shA v (vA v) (va v) (vu v) (val (vr v) a b) := w.2.1
  have w5 : X 22 (va v (sidx v (va v) (val (vr v) a b))) = shA v (vB v) (va v) (vu v) (val (vr v) a b) := w.2.2
  have w5b : ∀ z : Int, st2 X 30 1 z 22 (va v (sidx v (va v) (val (vr v) a b))) = shA v (vB v) (va v) (vu v) (val (vr v) a b) := fun z => w5
  have hbb : ∀ z : Int, st2 X 30 1 z 30 2 = b := fun z => hb
  have hpb := hp.1
  have e1 : a + shA v (vA v) (va v) (vu v) (val (vr v) a b) = gA v (va v) (vu v) a b := rfl
  have e2 : b + shA v (vB v) (va v) (vu v) (val (vr v) a b) = gB v (va v) (vu v) a b := rfl
  unfold pB at hpb h0 h1
  refine g_aload_n rfl dX6_shift_0 ?_
  refine g_dup rfl dX6_shift_1 ?_
  refine gf_X6_53 rfl (by first | rfl | assumption) dX6_shift_2 ?_
  refine g_aload_n rfl dX6_shift_5 ?_
  refine gf_X6_22 (c2 := 21) rfl rfl (by first | rfl | assumption) dX6_shift_6 ?_
  refine g_iload_n rfl dX6_shift_9 ?_
  refine g_lald (n := 8) (va v (sidx v (va v) (val (vr v) a b))) (by first | rfl | assumption) (by first | rfl | assumption) (by omega) (by first | omega | (simp [st2]; done) | (simp [st2]; omega)) (by first | omega | (simp [st2]; done) | (simp [st2]; omega)) dX6_shift_10 ?_
  refine g_ladd dX6_shift_11 ?_
  rw [w4, ha, e1]
  refine pf_X6_53 rfl (by first | rfl | assumption) dX6_shift_12 ?_
  refine g_aload_n rfl dX6_shift_15 ?_
  refine g_dup rfl dX6_shift_16 ?_
  refine gf_X6_59 rfl (by first | rfl | assumption) dX6_shift_17 ?_
  refine g_aload_n rfl dX6_shift_20 ?_
  refine gf_X6_25 (c2 := 22) rfl rfl (by first | rfl | assumption) dX6_shift_21 ?_
  refine g_iload_n rfl dX6_shift_24 ?_
  refine g_lald (n := 8) (va v (sidx v (va v) (val (vr v) a b))) (by first | rfl | assumption) (by first | rfl | assumption) (by omega) (by first | omega | (simp [st2]; done) | (simp [st2]; omega)) (by first | omega | (simp [st2]; done) | (simp [st2]; omega)) dX6_shift_25 ?_
  refine g_ladd dX6_shift_26 ?_
  rw [w5b, hbb, e2]
  refine pf_X6_59 rfl (by first | rfl | assumption) dX6_shift_27 ?_
  refine g_aload_n rfl dX6_shift_30 ?_
  refine gf_X6_53 rfl (by first | rfl | assumption) dX6_shift_31 ?_
  show G l g mX6_shift κ K 34 _ [vJ (gA v (va v) (vu v) a b)] _
  refine g_ldc (n := (536870912)) kc_RX6_70 dX6_shift_34 ?_
  refine g_cn2 (M2 := mX7_isWithin) dX6_shift_36 nest2 kX7_isWithin (by decide) (by unfold Rm; decide) (Nat.le_of_ble_eq_true rfl) (ct_X7_isWithin (by omega) (by omega) ?_)
  refine g_if_eq (t := 58) dX6_shift_39 (by decide) (by first | omega | (simp [st2]; done) | (simp [st2]; omega)) (fun b39 => ?_) (fun b39 => ?_)
  · refine g_iconst dX6_shift_58 ?_
    refine g_zreturn rfl (by omega) dX6_shift_59 ?_
    first | exact h1 (by omega) | exact h0 (by omega)
  · refine g_aload_n rfl dX6_shift_42 ?_
    refine gf_X6_59 rfl (by first | rfl | assumption) dX6_shift_43 ?_
    show G l g mX6_shift κ K 46 _ [vJ (gB v (va v) (vu v) a b)] _
    refine g_ldc (n := (536870912)) kc_RX6_70 dX6_shift_46 ?_
    refine g_cn2 (M2 := mX7_isWithin) dX6_shift_48 nest2 kX7_isWithin (by decide) (by unfold Rm; decide) (Nat.le_of_ble_eq_true rfl) (ct_X7_isWithin (by omega) (by omega) ?_)
    refine g_if_eq (t := 58) dX6_shift_51 (by decide) (by first | omega | (simp [st2]; done) | (simp [st2]; omega)) (fun b51 => ?_) (fun b51 => ?_)
    · refine g_iconst dX6_shift_58 ?_
      refine g_zreturn rfl (by omega) dX6_shift_59 ?_
      first | exact h1 (by omega) | exact h0 (by omega)
    · refine g_iconst dX6_shift_54 ?_
      refine g_goto (t := 59) dX6_shift_55 (by decide) ?_
      refine g_zreturn rfl (by omega) dX6_shift_59 ?_
      first | exact h1 (by omega) | exact h0 (by omega)
theorem ct_X6_carry_17 {l : Launch} {g : Geo} {X : Mm} {K : AV → Mm → Prop} {v : Mv} {a b : Int} (hW : WayC X 17 v (va v) (vu v)) (hv : Vd v) (hf : Perm (va v) (vn v)) (hh : Perm (vu v) (vn v)) (ha : X 30 1 = a) (hb : X 30 2 = b) (hp : ptOk v a b) (h1 : pB (gA v (va v) (vu v) a b) (gB v (va v) (vu v) a b) → K (vI 1) (st2 (st2 X 30 1 (gA v (va v) (vu v) a b)) 30 2 (gB v (va v) (vu v) a b))) (h0 : ¬ pB (gA v (va v) (vu v) a b) (gB v (va v) (vu v) a b) → K (vI 0) (st2 (st2 X 30 1 (gA v (va v) (vu v) a b)) 30 2 (gB v (va v) (vu v) a b))) : Ct l g mX6_carry [vR 17, vR 30] X K := by
  refine enter (by decide) (Nat.le_of_ble_eq_true rfl) (fun κ => ?_)
  refine g_aload_n rfl dX6_carry_0 ?_
  refine g_aload_n rfl dX6_carry_1 ?_
  refine g_aload_n rfl dX6_carry_2 ?_
  refine g_aload_n rfl dX6_carry_3 ?_
  refine g_cv1 (M2 := mX6_spanAt) (ci := 6) dX6_carry_4 ml_RX6_62 kX6_spanAt (by decide) (by first | rfl | assumption) (by decide) rfl (by unfold Rm; decide) (Nat.le_of_ble_eq_true rfl) (ct_X6_spanAt_17_30 hW hv hf ha hb hp ?_)
  refine g_cv2 (M2 := mX6_shift) (ci := 6) dX6_carry_7 ml_RX6_66 kX6_shift (by decide) (by first | rfl | assumption) (by decide) rfl (by unfold Rm; decide) (Nat.le_of_ble_eq_true rfl) (ct_X6_shift_17 hW hv hf hh ha hb hp (fun q => ?_) (fun q => ?_))
  · refine g_zreturn rfl (by omega) dX6_carry_10 ?_
    first | exact h1 q | exact h0 q
  · refine g_zreturn rfl (by omega) dX6_carry_10 ?_
    first | exact h1 q | exact h0 q
set_option maxRecDepth 100000 in
set_option maxHeartbeats 4000000 in
theorem ct_X6_shift_23 {l : Launch} {g : Geo} {X : Mm} {K : AV → Mm → Prop} {v : Mv} {a b : Int} (hW : WayC X 23 v (vu v) (va v)) (hv : Vd v) (hf : Perm (vu v) (vn v)) (hh : Perm (va v) (vn v)) (ha : X 30 1 = a) (hb : X 30 2 = b) (hp : ptOk v a b) (h1 : pB (gA v (vu v) (va v) a b) (gB v (vu v) (va v) a b) → K (vI 1) (st2 (st2 X 30 1 (gA v (vu v) (va v) a b)) 30 2 (gB v (vu v) (va v) a b))) (h0 : ¬ pB (gA v (vu v) (va v) a b) (gB v (vu v) (va v) a b) → K (vI 0) (st2 (st2 X 30 1 (gA v (vu v) (va v) a b)) 30 2 (gB v (vu v) (va v) a b))) : Ct l g mX6_shift [vR 23, vR 30, vI (vu v (sidx v (vu v) (val (vr v) a b)) : Int)] X K := by
  refine enter (by decide) (Nat.le_of_ble_eq_true rfl) (fun κ => ?_)
  have hn8 := hv.2.1
  have hsp := sidx_spec hp.2.2.1 (by rw [hv.tot hf]; exact hp.2.2.2)
  have hfj := hf.1 _ hsp.1
  have hg := go_pV hv hf hh hp.2
  have w := hW.2.2.1 _ hsp.1
  have w4 : X 27 (vu v (sidx v (vu v) (val (vr v) a b))) = shA v (vA v) (vu v) (va v) (val (vr v) a b) := w.2.1
  have w5 : X 28 (vu v (sidx v (vu v) (val (vr v) a b))) = shA v (vB v) (vu v) (va v) (val (vr v) a b) := w.2.2
  have w5b : ∀ z : Int, st2 X 30 1 z 28 (vu v (sidx v (vu v) (val (vr v) a b))) = shA v (vB v) (vu v) (va v) (val (vr v) a b) := fun z => w5
  have hbb : ∀ z : Int, st2 X 30 1 z 30 2 = b := fun z => hb
  have hpb := hp.1
  have e1 : a + shA v (vA v) (vu v) (va v) (val (vr v) a b) = gA v (vu v) (va v) a b := rfl
  have e2 : b + shA v (vB v) (vu v) (va v) (val (vr v) a b) = gB v (vu v) (va v) a b := rfl
  unfold pB at hpb h0 h1
  refine g_aload_n rfl dX6_shift_0 ?_
  refine g_dup rfl dX6_shift_1 ?_
  refine gf_X6_53 rfl (by first | rfl | assumption) dX6_shift_2 ?_
  refine g_aload_n rfl dX6_shift_5 ?_
  refine gf_X6_22 (c2 := 27) rfl rfl (by first | rfl | assumption) dX6_shift_6 ?_
  refine g_iload_n rfl dX6_shift_9 ?_
  refine g_lald (n := 8) (vu v (sidx v (vu v) (val (vr v) a b))) (by first | rfl | assumption) (by first | rfl | assumption) (by omega) (by first | omega | (simp [st2]; done) | (simp [st2]; omega)) (by first | omega | (simp [st2]; done) | (simp [st2]; omega)) dX6_shift_10 ?_
  refine g_ladd dX6_shift_11 ?_
  rw [w4, ha, e1]
  refine pf_X6_53 rfl (by first | rfl | assumption) dX6_shift_12 ?_
  refine g_aload_n rfl dX6_shift_15 ?_
  refine g_dup rfl dX6_shift_16 ?_
  refine gf_X6_59 rfl (by first | rfl | assumption) dX6_shift_17 ?_
  refine g_aload_n rfl dX6_shift_20 ?_
  refine gf_X6_25 (c2 := 28) rfl rfl (by first | rfl | assumption) dX6_shift_21 ?_
  refine g_iload_n rfl dX6_shift_24 ?_
  refine g_lald (n := 8) (vu v (sidx v (vu v) (val (vr v) a b))) (by first | rfl | assumption) (by first | rfl | assumption) (by omega) (by first | omega | (simp [st2]; done) | (simp [st2]; omega)) (by first | omega | (simp [st2]; done) | (simp [st2]; omega)) dX6_shift_25 ?_
  refine g_ladd dX6_shift_26 ?_
  rw [w5b, hbb, e2]
  refine pf_X6_59 rfl (by first | rfl | assumption) dX6_shift_27 ?_
  refine g_aload_n rfl dX6_shift_30 ?_
  refine gf_X6_53 rfl (by first | rfl | assumption) dX6_shift_31 ?_
  show G l g mX6_shift κ K 34 _ [vJ (gA v (vu v) (va v) a b)] _
  refine g_ldc (n := (536870912)) kc_RX6_70 dX6_shift_34 ?_
  refine g_cn2 (M2 := mX7_isWithin) dX6_shift_36 nest2 kX7_isWithin (by decide) (by unfold Rm; decide) (Nat.le_of_ble_eq_true rfl) (ct_X7_isWithin (by omega) (by omega) ?_)
  refine g_if_eq (t := 58) dX6_shift_39 (by decide) (by first | omega | (simp [st2]; done) | (simp [st2]; omega)) (fun b39 => ?_) (fun b39 => ?_)
  · refine g_iconst dX6_shift_58 ?_
    refine g_zreturn rfl (by omega) dX6_shift_59 ?_
    first | exact h1 (by omega) | exact h0 (by omega)
  · refine g_aload_n rfl dX6_shift_42 ?_
    refine gf_X6_59 rfl (by first | rfl | assumption) dX6_shift_43 ?_
    show G l g mX6_shift κ K 46 _ [vJ (gB v (vu v) (va v) a b)] _
    refine g_ldc (n := (536870912)) kc_RX6_70 dX6_shift_46 ?_
    refine g_cn2 (M2 := mX7_isWithin) dX6_shift_48 nest2 kX7_isWithin (by decide) (by unfold Rm; decide) (Nat.le_of_ble_eq_true rfl) (ct_X7_isWithin (by omega) (by omega) ?_)
    refine g_if_eq (t := 58) dX6_shift_51 (by decide) (by first | omega | (simp [st2]; done) | (simp [st2]; omega)) (fun b51 => ?_) (fun b51 => ?_)
    · refine g_iconst dX6_shift_58 ?_
      refine g_zreturn rfl (by omega) dX6_shift_59 ?_
      first | exact h1 (by omega) | exact h0 (by omega)
    · refine g_iconst dX6_shift_54 ?_
      refine g_goto (t := 59) dX6_shift_55 (by decide) ?_
      refine g_zreturn rfl (by omega) dX6_shift_59 ?_
      first | exact h1 (by omega) | exact h0 (by omega)
theorem ct_X6_carry_23 {l : Launch} {g : Geo} {X : Mm} {K : AV → Mm → Prop} {v : Mv} {a b : Int} (hW : WayC X 23 v (vu v) (va v)) (hv : Vd v) (hf : Perm (vu v) (vn v)) (hh : Perm (va v) (vn v)) (ha : X 30 1 = a) (hb : X 30 2 = b) (hp : ptOk v a b) (h1 : pB (gA v (vu v) (va v) a b) (gB v (vu v) (va v) a b) → K (vI 1) (st2 (st2 X 30 1 (gA v (vu v) (va v) a b)) 30 2 (gB v (vu v) (va v) a b))) (h0 : ¬ pB (gA v (vu v) (va v) a b) (gB v (vu v) (va v) a b) → K (vI 0) (st2 (st2 X 30 1 (gA v (vu v) (va v) a b)) 30 2 (gB v (vu v) (va v) a b))) : Ct l g mX6_carry [vR 23, vR 30] X K := by
  refine enter (by decide) (Nat.le_of_ble_eq_true rfl) (fun κ => ?_)
  refine g_aload_n rfl dX6_carry_0 ?_
  refine g_aload_n rfl dX6_carry_1 ?_
  refine g_aload_n rfl dX6_carry_2 ?_
  refine g_aload_n rfl dX6_carry_3 ?_
  refine g_cv1 (M2 := mX6_spanAt) (ci := 6) dX6_carry_4 ml_RX6_62 kX6_spanAt (by decide) (by first | rfl | assumption) (by decide) rfl (by unfold Rm; decide) (Nat.le_of_ble_eq_true rfl) (ct_X6_spanAt_23_30 hW hv hf ha hb hp ?_)
  refine g_cv2 (M2 := mX6_shift) (ci := 6) dX6_carry_7 ml_RX6_66 kX6_shift (by decide) (by first | rfl | assumption) (by decide) rfl (by unfold Rm; decide) (Nat.le_of_ble_eq_true rfl) (ct_X6_shift_23 hW hv hf hh ha hb hp (fun q => ?_) (fun q => ?_))
  · refine g_zreturn rfl (by omega) dX6_carry_10 ?_
    first | exact h1 q | exact h0 q
  · refine g_zreturn rfl (by omega) dX6_carry_10 ?_
    first | exact h1 q | exact h0 q
