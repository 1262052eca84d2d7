/-! THE GROUND -/
def jn (f : Nat → Nat) (one other : Nat) : Nat → Nat := fun c => if f c = f other then f one else f c
def cb (n j : Nat) : Nat := if j = 0 then 0 else if j = n then n else n + j
def sgm (v : Mv) (i : Nat) : Nat := posI (vu v) (va v i) (vn v)
def lbC (v : Mv) : Nat → (Nat → Nat)
  | 0 => fun c => c
  | i + 1 => jn (jn (lbC v i) i (cb (vn v) (sgm v i))) (i + 1) (cb (vn v) (sgm v i + 1))
theorem jn_keep {f : Nat → Nat} {a b c d : Nat} (h : f c = f d) : jn f a b c = jn f a b d := by
  unfold jn
  rw [h]
theorem jn_edge (f : Nat → Nat) (a b : Nat) : jn f a b a = jn f a b b := by
  unfold jn
  rw [if_pos rfl]
  split <;> rfl
theorem jn_idem {f : Nat → Nat} (h : ∀ c, f (f c) = f c) (a b : Nat) : ∀ c, jn f a b (jn f a b c) = jn f a b c := by
  intro c
  unfold jn
  by_cases q : f c = f b
  · rw [if_pos q, h a]
    split <;> rfl
  · rw [if_neg q, h c, if_neg q]
theorem jn_lt {f : Nat → Nat} {N a b : Nat} (h : ∀ c, c < N → f c < N) (ha : a < N) : ∀ c, c < N → jn f a b c < N := by
  intro c hc
  unfold jn
  split
  · exact h a ha
  · exact h c hc
theorem jn_ker {f : Nat → Nat} {a b : Nat} {Q : Nat → Nat → Prop} (hQ : Equivalence Q) (hab : Q a b) (h : ∀ c d, f c = f d → Q c d) : ∀ c d, jn f a b c = jn f a b d → Q c d := by
  intro c d e
  unfold jn at e
  by_cases q1 : f c = f b
  · rw [if_pos q1] at e
    by_cases q2 : f d = f b
    · exact h c d (by omega)
    · rw [if_neg q2] at e
      exact hQ.trans (h c b q1) (hQ.trans (hQ.symm hab) (h a d e))
  · rw [if_neg q1] at e
    by_cases q2 : f d = f b
    · rw [if_pos q2] at e
      exact hQ.trans (h c a e) (hQ.trans hab (hQ.symm (h d b q2)))
    · rw [if_neg q2] at e
      exact h c d e
/-- the corners that are glued -/
def Eg (v : Mv) (c d : Nat) : Prop := ∃ i, i < vn v ∧ ((c = i ∧ d = cb (vn v) (sgm v i)) ∨ (c = i + 1 ∧ d = cb (vn v) (sgm v i + 1)))
def Cn (v : Mv) (c d : Nat) : Prop := ∀ R : Nat → Nat → Prop, Equivalence R → (∀ c d, Eg v c d → R c d) → R c d
theorem Cn_eq (v : Mv) : Equivalence (Cn v) := ⟨fun _ R hR _ => hR.refl _, fun h R hR hE => hR.symm (h R hR hE), fun h k R hR hE => hR.trans (h R hR hE) (k R hR hE)⟩
theorem lbC_idem (v : Mv) : ∀ i c, lbC v i (lbC v i c) = lbC v i c
  | 0, _ => rfl
  | i + 1, c => jn_idem (jn_idem (lbC_idem v i) _ _) _ _ c
theorem cb_lt {n j : Nat} (hj : j ≤ n) (hn : 2 ≤ n) : cb n j < 2 * n := by
  unfold cb
  repeat' split
  all_goals omega
theorem lbC_lt {v : Mv} (hv : Vd v) : ∀ i, i ≤ vn v → ∀ c, c < 2 * vn v → lbC v i c < 2 * vn v
  | 0, _, _, hc => hc
  | i + 1, hi, c, hc => by
    have := hv.1
    exact jn_lt (jn_lt (lbC_lt hv i (by omega)) (by omega)) (by omega) c hc
theorem lbC_to (v : Mv) : ∀ i, i ≤ vn v → ∀ c d, lbC v i c = lbC v i d → Cn v c d
  | 0, _, c, d, h => by
    have e : c = d := h
    rw [e]
    exact (Cn_eq v).refl d
  | i + 1, hi, c, d, h => jn_ker (Cn_eq v) (fun R hR hE => hE _ _ ⟨i, by omega, Or.inr ⟨rfl, rfl⟩⟩) (jn_ker (Cn_eq v) (fun R hR hE => hE _ _ ⟨i, by omega, Or.inl ⟨rfl, rfl⟩⟩) (lbC_to v i (by omega))) c d h
theorem lbC_ed (v : Mv) : ∀ i q, q < i → lbC v i q = lbC v i (cb (vn v) (sgm v q)) ∧ lbC v i (q + 1) = lbC v i (cb (vn v) (sgm v q + 1))
  | 0, q, hq => by omega
  | i + 1, q, hq => by
    rcases Nat.lt_or_ge q i with z | z
    · obtain ⟨h1, h2⟩ := lbC_ed v i q z
      exact ⟨jn_keep (jn_keep h1), jn_keep (jn_keep h2)⟩
    · obtain rfl : q = i := by omega
      exact ⟨jn_keep (jn_edge _ _ _), jn_edge _ _ _⟩
theorem lbC_iff (v : Mv) (c d : Nat) : lbC v (vn v) c = lbC v (vn v) d ↔ Cn v c d := by
  refine ⟨lbC_to v _ (Nat.le_refl _) c d, fun h => h (fun c d => lbC v (vn v) c = lbC v (vn v) d) ⟨fun _ => rfl, fun h => h.symm, fun h k => h.trans k⟩ ?_⟩
  rintro c d ⟨i, hi, ⟨e1, e2⟩ | ⟨e1, e2⟩⟩
  · rw [e1, e2]
    exact (lbC_ed v _ i hi).1
  · rw [e1, e2]
    exact (lbC_ed v _ i hi).2
/-- what is counted of a labeling -/
def nPt (f : Nat → Nat) (N : Nat) : Nat := fb_ct (fun c => f c == c) N
def nTu (f : Nat → Nat) (n c : Nat) : Nat := fb_ct (fun b => f (b + 1) == f c) (n - 1)
def mTu (f : Nat → Nat) (n : Nat) : Nat → Nat
  | 0 => 0
  | c + 1 => if mTu f n c < nTu f n c then nTu f n c else mTu f n c
def nOn (f : Nat → Nat) (n N : Nat) : Nat := fb_ct (fun c => f c == c && nTu f n c == 1) N
theorem nTu_le (f : Nat → Nat) (n c : Nat) : nTu f n c ≤ n := Nat.le_trans (fb_ct_le _ _) (by omega)
theorem mTu_le (f : Nat → Nat) (n : Nat) : ∀ c, mTu f n c ≤ n
  | 0 => by simp [mTu]
  | c + 1 => by
    have h1 := mTu_le f n c
    have h2 := nTu_le f n c
    rw [mTu]
    split <;> omega
theorem ct_X0_cornerBelow {l : Launch} {g : Geo} {X : Mm} {K : AV → Mm → Prop} {n j : Nat} (hn : X 42 0 = (n : Int)) (hn8 : n ≤ 8) (hj : j ≤ n) (hk : K (vI (cb n j : Int)) X) : Ct l g mX0_cornerBelow [vR 42, vI (j : Int)] X K := by
  refine enter (by decide) (Nat.le_of_ble_eq_true rfl) (fun κ => ?_)
  unfold cb at hk
  refine g_iload_n rfl dX0_cornerBelow_0 ?_
  refine g_if_ne (t := 8) dX0_cornerBelow_1 (by decide) (by first | omega | (simp [st2]; done) | (simp [st2]; omega)) (fun b1 => ?_) (fun b1 => ?_)
  · refine g_iload_n rfl dX0_cornerBelow_8 ?_
    refine g_aload_n rfl dX0_cornerBelow_9 ?_
    refine gf_X0_21 rfl (by first | rfl | assumption) dX0_cornerBelow_10 ?_
    refine g_icmp_ne (t := 23) dX0_cornerBelow_13 (by decide) (by first | omega | (simp [st2]; done) | (simp [st2]; omega)) (by first | omega | (simp [st2]; done) | (simp [st2]; omega)) (fun b13 => ?_) (fun b13 => ?_)
    · refine g_aload_n rfl dX0_cornerBelow_23 ?_
      refine gf_X0_21 rfl (by first | rfl | assumption) dX0_cornerBelow_24 ?_
      refine g_iload_n rfl dX0_cornerBelow_27 ?_
      refine g_iadd dX0_cornerBelow_28 ?_
      refine g_ireturn rfl dX0_cornerBelow_29 ?_
      refine kE hk ?_
      repeat' split
      all_goals omega
    · refine g_aload_n rfl dX0_cornerBelow_16 ?_
      refine gf_X0_21 rfl (by first | rfl | assumption) dX0_cornerBelow_17 ?_
      refine g_goto (t := 29) dX0_cornerBelow_20 (by decide) ?_
      refine g_ireturn rfl dX0_cornerBelow_29 ?_
      refine kE hk ?_
      repeat' split
      all_goals omega
  · refine g_iconst dX0_cornerBelow_4 ?_
    refine g_goto (t := 29) dX0_cornerBelow_5 (by decide) ?_
    refine g_ireturn rfl dX0_cornerBelow_29 ?_
    refine kE hk ?_
    repeat' split
    all_goals omega
set_option maxRecDepth 100000 in
theorem ct_X0_join {l : Launch} {g : Geo} {X : Mm} {K : AV → Mm → Prop} {n a b : Nat} {f : Nat → Nat} (hn : X 42 0 = (n : Int)) (hn8 : n ≤ 8) (hf : Rw X 43 (2 * n) f) (hl : ∀ c, c < 2 * n → f c < 2 * n) (ha : a < 2 * n) (hb : b < 2 * n) (hk : ∀ X2, (∀ d j, d ≠ 43 → X2 d j = X d j) → Rw X2 43 (2 * n) (jn f a b) → K (vI 0) X2) : Ct l g mX0_join [vR 42, vI (a : Int), vI (b : Int)] X K := by
  refine enter (by decide) (Nat.le_of_ble_eq_true rfl) (fun κ => ?_)
  have ea : X 43 a = (f a : Int) := hf a ha
  have eb : X 43 b = (f b : Int) := hf b hb
  have la := hl a ha
  have lb := hl b hb
  have loop : ∀ i, i ≤ 2 * n → ∀ X2, (∀ d j, d ≠ 43 → X2 d j = X d j) → (∀ c, c < 2 * n → X2 43 c = ((if c < i then jn f a b c else f c : Nat) : Int)) → G l g mX0_join κ K 18 [(0, vR 42), (3, vI (f a : Int)), (4, vI (f b : Int)), (5, vI (i : Int))] [] X2 := by
    refine upTo (2 * n) ?_
    intro i hi ih X2 hfr hrow
    have z0 : X2 42 0 = (n : Int) := by rw [hfr 42 0 (by decide)]; exact hn
    refine g_iload rfl dX0_join_18 ?_
    refine g_iconst dX0_join_20 ?_
    refine g_aload_n rfl dX0_join_21 ?_
    refine gf_X0_21 rfl (by first | rfl | assumption) dX0_join_22 ?_
    refine g_imul dX0_join_25 ?_
    refine g_icmp_ge (t := 55) dX0_join_26 (by decide) (by first | omega | (simp [st2]; done) | (simp [st2]; omega)) (by first | omega | (simp [st2]; done) | (simp [st2]; omega)) (fun b26 => ?_) (fun b26 => ?_)
    · refine g_return rfl dX0_join_55 ?_
      refine hk X2 hfr (fun c hc => ?_)
      rw [hrow c hc, if_pos (by omega)]
    · have hri := hrow i (by omega)
      rw [if_neg (by omega)] at hri
      have lc := hl i (by omega)
      refine g_aload_n rfl dX0_join_29 ?_
      refine gf_X0_9 (c2 := 43) rfl rfl (by first | rfl | assumption) dX0_join_30 ?_
      refine g_iload rfl dX0_join_33 ?_
      refine g_iald (n := 16) (_) (by first | rfl | assumption) (by first | rfl | assumption) rfl (by first | omega | (simp [st2]; done) | (simp [st2]; omega)) (by first | omega | (simp [st2]; done) | (simp [st2]; omega)) dX0_join_35 ?_
      refine g_iload rfl dX0_join_36 ?_
      refine g_icmp_ne (t := 49) dX0_join_38 (by decide) (by first | omega | (simp [st2]; done) | (simp [st2]; omega)) (by first | omega | (simp [st2]; done) | (simp [st2]; omega)) (fun b38 => ?_) (fun b38 => ?_)
      · refine g_iinc rfl (by decide) dX0_join_49 ?_
        refine g_goto (t := 18) dX0_join_52 (by decide) ?_
        refine g_subl [(0, vR 42), (3, vI (f a : Int)), (4, vI (f b : Int)), (5, vI ((i + 1 : Nat) : Int))] rfl ?_
        refine ih (i + 1) (by omega) (by omega) _ (fun d j hd => by first | exact hfr d j hd | (simp only [st2, if_neg hd]; exact hfr d j hd)) (fun c hc => ?_)
        by_cases z : c = i
        · subst z
          rw [if_pos (by omega)]
          unfold jn
          first
            | (rw [if_pos (by omega)]
               simp [st2]
               done)
            | (rw [if_neg (by omega)]
               exact hri)
        · first
            | (rw [hrow c hc]
               by_cases z2 : c < i
               · rw [if_pos z2, if_pos (by omega)]
               · rw [if_neg z2, if_neg (by omega)])
            | (simp only [st2, if_true, if_neg z]
               rw [hrow c hc]
               by_cases z2 : c < i
               · rw [if_pos z2, if_pos (by omega)]
               · rw [if_neg z2, if_neg (by omega)])
      · refine g_aload_n rfl dX0_join_41 ?_
        refine gf_X0_9 (c2 := 43) rfl rfl (by first | rfl | assumption) dX0_join_42 ?_
        refine g_iload rfl dX0_join_45 ?_
        refine g_iload_n rfl dX0_join_47 ?_
        refine g_iast (n := 16) (_) (by first | rfl | assumption) (by first | rfl | assumption) rfl (by first | omega | (simp [st2]; done) | (simp [st2]; omega)) (by first | omega | (simp [st2]; done) | (simp [st2]; omega)) dX0_join_48 ?_
        refine g_iinc rfl (by decide) dX0_join_49 ?_
        refine g_goto (t := 18) dX0_join_52 (by decide) ?_
        refine g_subl [(0, vR 42), (3, vI (f a : Int)), (4, vI (f b : Int)), (5, vI ((i + 1 : Nat) : Int))] rfl ?_
        refine ih (i + 1) (by omega) (by omega) _ (fun d j hd => by first | exact hfr d j hd | (simp only [st2, if_neg hd]; exact hfr d j hd)) (fun c hc => ?_)
        by_cases z : c = i
        · subst z
          rw [if_pos (by omega)]
          unfold jn
          first
            | (rw [if_pos (by omega)]
               simp [st2]
               done)
            | (rw [if_neg (by omega)]
               exact hri)
        · first
            | (rw [hrow c hc]
               by_cases z2 : c < i
               · rw [if_pos z2, if_pos (by omega)]
               · rw [if_neg z2, if_neg (by omega)])
            | (simp only [st2, if_true, if_neg z]
               rw [hrow c hc]
               by_cases z2 : c < i
               · rw [if_pos z2, if_pos (by omega)]
               · rw [if_neg z2, if_neg (by omega)])
  refine g_aload_n rfl dX0_join_0 ?_
  refine gf_X0_9 (c2 := 43) rfl rfl (by first | rfl | assumption) dX0_join_1 ?_
  refine g_iload_n rfl dX0_join_4 ?_
  refine g_iald (n := 16) (_) (by first | rfl | assumption) (by first | rfl | assumption) rfl (by first | omega | (simp [st2]; done) | (simp [st2]; omega)) (by first | omega | (simp [st2]; done) | (simp [st2]; omega)) dX0_join_5 ?_
  rw [ea]
  refine g_istore_n (by decide) dX0_join_6 ?_
  refine g_aload_n rfl dX0_join_7 ?_
  refine gf_X0_9 (c2 := 43) rfl rfl (by first | rfl | assumption) dX0_join_8 ?_
  refine g_iload_n rfl dX0_join_11 ?_
  refine g_iald (n := 16) (_) (by first | rfl | assumption) (by first | rfl | assumption) rfl (by first | omega | (simp [st2]; done) | (simp [st2]; omega)) (by first | omega | (simp [st2]; done) | (simp [st2]; omega)) dX0_join_12 ?_
  rw [eb]
  refine g_istore (by decide) dX0_join_13 ?_
  refine g_iconst dX0_join_15 ?_
  refine g_istore (by decide) dX0_join_16 ?_
  refine g_subl [(0, vR 42), (3, vI (f a : Int)), (4, vI (f b : Int)), (5, vI ((0 : Nat) : Int))] rfl ?_
  exact loop 0 (by omega) X (fun _ _ _ => rfl) (fun c hc => by rw [if_neg (by omega)]; exact hf c hc)
