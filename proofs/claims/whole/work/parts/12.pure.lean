/-! searches -/
def fst1 (p : Nat → Bool) : Nat → Nat → Nat
  | 0, i => i
  | d + 1, i => if p i then i else fst1 p d (i + 1)
/-- the least j from i on, below n, with p; n if there is none -/
def srch (p : Nat → Bool) (i n : Nat) : Nat := fst1 p (n - i) i
theorem srch_hit {p : Nat → Bool} {i n : Nat} (h : i < n) (hp : p i = true) : srch p i n = i := by
  unfold srch
  obtain ⟨d, hd⟩ : ∃ d, n - i = d + 1 := ⟨n - i - 1, by omega⟩
  rw [hd, fst1, if_pos hp]
theorem srch_miss {p : Nat → Bool} {i n : Nat} (h : i < n) (hp : ¬ p i = true) : srch p i n = srch p (i + 1) n := by
  unfold srch
  obtain ⟨d, hd⟩ : ∃ d, n - i = d + 1 := ⟨n - i - 1, by omega⟩
  rw [hd, fst1, if_neg hp, show n - (i + 1) = d by omega]
theorem srch_end {p : Nat → Bool} {i n : Nat} (h : n ≤ i) : srch p i n = i := by
  unfold srch
  rw [show n - i = 0 by omega, fst1]
theorem srch_spec (p : Nat → Bool) {n : Nat} : ∀ i, i ≤ n → i ≤ srch p i n ∧ srch p i n ≤ n ∧ (srch p i n < n → p (srch p i n) = true) ∧ ∀ k, i ≤ k → k < srch p i n → ¬ p k = true := by
  refine upTo n ?_
  intro i hi ih
  rcases Nat.lt_or_ge i n with q | q
  · by_cases hp : p i = true
    · rw [srch_hit q hp]
      exact ⟨Nat.le_refl _, by omega, fun _ => hp, fun k h1 h2 => by omega⟩
    · rw [srch_miss q hp]
      obtain ⟨h1, h2, h3, h4⟩ := ih (i + 1) (by omega) (by omega)
      refine ⟨by omega, h2, h3, fun k a b => ?_⟩
      rcases Nat.lt_or_ge i k with z | z
      · exact h4 k (by omega) b
      · rw [show k = i by omega]; exact hp
  · rw [srch_end q]
    exact ⟨Nat.le_refl _, hi, fun z => by omega, fun k h1 h2 => by omega⟩
theorem srch_eq {p : Nat → Bool} {i j n : Nat} (hi : i ≤ j) (hj : j < n) (hp : p j = true) (h : ∀ k, i ≤ k → k < j → ¬ p k = true) : srch p i n = j := by
  obtain ⟨h1, h2, h3, h4⟩ := srch_spec p (n := n) i (by omega)
  rcases Nat.lt_trichotomy (srch p i n) j with q | q | q
  · exact absurd (h3 (by omega)) (h _ h1 q)
  · exact q
  · exact absurd hp (h4 j hi q)
theorem srch_cong {p q : Nat → Bool} {i n : Nat} (h : ∀ k, i ≤ k → k < n → p k = q k) : srch p i n = srch q i n := by
  rcases Nat.lt_or_ge n i with z | z
  · rw [srch_end (by omega), srch_end (by omega)]
  · revert h
    revert i
    have key : ∀ i, i ≤ n → (∀ k, i ≤ k → k < n → p k = q k) → srch p i n = srch q i n := by
      refine upTo n ?_
      intro i hi ih h
      rcases Nat.lt_or_ge i n with z | z
      · by_cases hp : p i = true
        · rw [srch_hit z hp, srch_hit z (by rw [← h i (Nat.le_refl _) z]; exact hp)]
        · rw [srch_miss z hp, srch_miss z (by rw [← h i (Nat.le_refl _) z]; exact hp)]
          exact ih (i + 1) (by omega) (by omega) (fun k a b => h k (by omega) b)
      · rw [srch_end z, srch_end z]
    intro i hi h
    exact key i hi h
def posI (f : Nat → Nat) (k n : Nat) : Nat := srch (fun i => f i == k) 0 n
theorem posI_spec {f : Nat → Nat} {n k : Nat} (h : Perm f n) (hk : k < n) : posI f k n < n ∧ f (posI f k n) = k := by
  obtain ⟨j, hj, e⟩ := h.onto hk
  obtain ⟨h1, h2, h3, h4⟩ := srch_spec (fun i => f i == k) (n := n) 0 (by omega)
  have hlt : posI f k n < n := by
    rcases Nat.lt_or_ge (posI f k n) n with q | q
    · exact q
    · exact absurd (by simpa using e) (h4 j (by omega) (by unfold posI at q; omega))
  refine ⟨hlt, ?_⟩
  have := h3 hlt
  simpa [posI] using this
theorem posI_eq {f : Nat → Nat} {n j : Nat} (h : Perm f n) (hj : j < n) : posI f (f j) n = j := by
  obtain ⟨h1, h2⟩ := posI_spec h (h.1 j hj)
  exact h.2 _ _ h1 hj h2
/-! sums along an order -/
def ps (A : Nat → Int) (f : Nat → Nat) : Nat → Int
  | 0 => 0
  | j + 1 => ps A f j + A (f j)
theorem ps_si (A : Nat → Int) (f : Nat → Nat) : ∀ n, ps A f n = fb_si (fun j => A (f j)) n
  | 0 => rfl
  | n + 1 => by rw [ps, fb_si_succ, ps_si A f n]
theorem ps_cong {A B : Nat → Int} {f h : Nat → Nat} : ∀ {n : Nat}, (∀ k, k < n → A (f k) = B (h k)) → ps A f n = ps B h n
  | 0, _ => rfl
  | n + 1, e => by rw [ps, ps, ps_cong (fun k hk => e k (by omega)), e n (by omega)]
theorem ps_val (r : Int) (A B : Nat → Int) (f : Nat → Nat) : ∀ n, ps (fun k => val r (A k) (B k)) f n = val r (ps A f n) (ps B f n)
  | 0 => (val_0 r).symm
  | n + 1 => by
    simp only [ps]
    rw [ps_val r A B f n, val_add]
theorem ps_bd {A : Nat → Int} {f : Nat → Nat} {c : Int} : ∀ {n : Nat}, (∀ k, k < n → -c ≤ A (f k) ∧ A (f k) ≤ c) → -(n * c) ≤ ps A f n ∧ ps A f n ≤ n * c
  | 0, _ => by simp [ps]
  | n + 1, h => by
    have h1 := ps_bd (n := n) (fun k hk => h k (by omega))
    have h2 := h n (by omega)
    rw [ps, Int.natCast_add, Int.add_mul]
    omega
theorem ps_mono {L : Nat → Int} {f : Nat → Nat} {n : Nat} (h : ∀ k, k < n → 0 < L (f k)) : ∀ j, j ≤ n → ∀ i, i ≤ j → ps L f i + (j - i : Int) ≤ ps L f j
  | 0, _, i, hi => by
    rw [show i = 0 by omega]; simp
  | j + 1, hj, i, hi => by
    rcases Nat.lt_or_ge i (j + 1) with q | q
    · have h1 := ps_mono h j (by omega) i (by omega)
      have h2 := h j (by omega)
      rw [ps]
      omega
    · rw [show i = j + 1 by omega]; omega
theorem ps_perm {n : Nat} : ∀ {A : Nat → Int} {f : Nat → Nat}, Perm f n → ps A f n = ps A id n := by
  induction n with
  | zero => intros; rfl
  | succ n ih =>
    intro A f h
    obtain ⟨p, hp, e⟩ := h.onto (k := n) (by omega)
    rw [ps_si, ps]
    by_cases q : p = n
    · subst q
      rw [fb_si_succ, ← ps_si, ih (f := f) ⟨fun j hj => ?_, fun i j hi hj => h.2 i j (by omega) (by omega)⟩, e]
      · rfl
      · have h1 := h.1 j (by omega)
        have h2 : f j ≠ p := fun z => by have := h.2 j p (by omega) (by omega) (by omega); omega
        omega
    · have hp2 : p < n := by omega
      have hP : Perm (fun j => if j = p then f n else f j) n := by
        have hfn : f n ≠ n := fun z => q (h.2 p n (by omega) (by omega) (by omega))
        refine ⟨fun j hj => ?_, fun i j hi hj => ?_⟩
        · dsimp only
          split
          · have := h.1 n (by omega); omega
          · have h1 := h.1 j (by omega)
            have h2 : f j ≠ n := fun z => by have := h.2 j p (by omega) (by omega) (by omega); omega
            omega
        · dsimp only
          split <;> split <;> intro z
          · omega
          · have := h.2 n j (by omega) (by omega) z; omega
          · have := h.2 i n (by omega) (by omega) z; omega
          · exact h.2 i j (by omega) (by omega) z
      have h1 := ih (A := A) hP
      rw [ps_si] at h1
      have h2 : (fun j => A (if j = p then f n else f j)) = (fun k => if k = p then A (f n) else (fun j => A (f j)) k) := by
        funext j
        dsimp only
        split <;> rfl
      rw [h2, fb_si_upd _ _ hp2] at h1
      rw [fb_si_succ, ← h1, e]
      show _ = _ + A n
      omega
/-! THE MOVER, as numbers -/
abbrev Mv : Type := Nat × Int × (Nat → Int) × (Nat → Int) × (Nat → Nat) × (Nat → Nat) × (Nat → Nat → Int)
def vn (v : Mv) : Nat := v.1
def vr (v : Mv) : Int := v.2.1
def vA (v : Mv) : Nat → Int := v.2.2.1
def vB (v : Mv) : Nat → Int := v.2.2.2.1
def va (v : Mv) : Nat → Nat := v.2.2.2.2.1
def vu (v : Mv) : Nat → Nat := v.2.2.2.2.2.1
def vT (v : Mv) : Nat → Nat → Int := v.2.2.2.2.2.2
def vL (v : Mv) : Nat → Int := fun k => val (vr v) (vA v k) (vB v k)
def Vd (v : Mv) : Prop := 2 ≤ vn v ∧ vn v ≤ 8 ∧ isRoot (vr v) ∧ (∀ k, k < vn v → (-16384 ≤ vA v k ∧ vA v k ≤ 16384) ∧ (-16384 ≤ vB v k ∧ vB v k ≤ 16384) ∧ (vr v = 0 → vB v k = 0) ∧ 0 < vL v k) ∧ Perm (va v) (vn v) ∧ Perm (vu v) (vn v) ∧ ∀ i j, i < vn v → j < vn v → 0 ≤ vT v i j ∧ vT v i j ≤ 1099511627776
/-- where a value is, along an order -/
def sidx (v : Mv) (f : Nat → Nat) (x : Int) : Nat := srch (fun j => decide (x < ps (vL v) f (j + 1))) 0 (vn v)
theorem sidx_spec {v : Mv} {f : Nat → Nat} {x : Int} (h0 : 0 ≤ x) (h1 : x < ps (vL v) f (vn v)) : sidx v f x < vn v ∧ ps (vL v) f (sidx v f x) ≤ x ∧ x < ps (vL v) f (sidx v f x + 1) := by
  obtain ⟨a1, a2, a3, a4⟩ := srch_spec (fun j => decide (x < ps (vL v) f (j + 1))) (n := vn v) 0 (by omega)
  have hn : 0 < vn v := by
    rcases Nat.eq_zero_or_pos (vn v) with q | q
    · rw [q] at h1; simp [ps] at h1; omega
    · exact q
  have hlt : sidx v f x < vn v := by
    rcases Nat.lt_or_ge (sidx v f x) (vn v) with q | q
    · exact q
    · exact absurd (by
        rw [show vn v - 1 + 1 = vn v by omega]
        simpa using h1) (a4 (vn v - 1) (by omega) (by unfold sidx at q; omega))
  refine ⟨hlt, ?_, by have := a3 hlt; simpa [sidx] using this⟩
  rcases Nat.eq_zero_or_pos (sidx v f x) with q | q
  · rw [q]; simpa [ps] using h0
  · have := a4 (sidx v f x - 1) (by omega) (by unfold sidx at q ⊢; omega)
    rw [show sidx v f x - 1 + 1 = sidx v f x by omega] at this
    simpa using this
theorem Vd.pos {v : Mv} (h : Vd v) {f : Nat → Nat} (hf : Perm f (vn v)) : ∀ k, k < vn v → 0 < vL v (f k) := fun k hk => (h.2.2.2.1 _ (hf.1 k hk)).2.2.2
theorem Vd.mono {v : Mv} (h : Vd v) {f : Nat → Nat} (hf : Perm f (vn v)) {i j : Nat} (hij : i ≤ j) (hj : j ≤ vn v) : ps (vL v) f i + (j - i : Int) ≤ ps (vL v) f j := ps_mono (h.pos hf) j hj i hij
theorem sidx_eq {v : Mv} (h : Vd v) {f : Nat → Nat} (hf : Perm f (vn v)) {x : Int} {j : Nat} (hj : j < vn v) (h1 : ps (vL v) f j ≤ x) (h2 : x < ps (vL v) f (j + 1)) : sidx v f x = j := by
  refine srch_eq (by omega) hj (by simpa using h2) (fun k a b => ?_)
  have := h.mono hf (i := k + 1) (j := j) (by omega) (by omega)
  simp
  omega
theorem Vd.psA {v : Mv} (h : Vd v) {f : Nat → Nat} (hf : Perm f (vn v)) {j : Nat} (hj : j ≤ vn v) : (-131072 ≤ ps (vA v) f j ∧ ps (vA v) f j ≤ 131072) ∧ (-131072 ≤ ps (vB v) f j ∧ ps (vB v) f j ≤ 131072) ∧ (vr v = 0 → ps (vB v) f j = 0) := by
  have h1 := ps_bd (A := vA v) (f := f) (c := 16384) (n := j) (fun k hk => (h.2.2.2.1 _ (hf.1 k (by omega))).1)
  have h2 := ps_bd (A := vB v) (f := f) (c := 16384) (n := j) (fun k hk => (h.2.2.2.1 _ (hf.1 k (by omega))).2.1)
  have h8 := h.2.1
  refine ⟨by omega, by omega, fun e => ?_⟩
  have h3 := ps_bd (A := vB v) (f := f) (c := 0) (n := j) (fun k hk => by
    have := (h.2.2.2.1 _ (hf.1 k (by omega))).2.2.1 e
    omega)
  omega
theorem vL_ps (v : Mv) (f : Nat → Nat) (j : Nat) : ps (vL v) f j = val (vr v) (ps (vA v) f j) (ps (vB v) f j) := ps_val _ _ _ _ _
def tot (v : Mv) : Int := ps (vL v) id (vn v)
theorem Vd.tot {v : Mv} (h : Vd v) {f : Nat → Nat} (hf : Perm f (vn v)) : ps (vL v) f (vn v) = tot v := ps_perm hf
theorem Perm.id (n : Nat) : Perm (fun k => k) n := ⟨fun _ h => h, fun _ _ _ _ h => h⟩
/-- on the line -/
def onL (v : Mv) (a b : Int) : Prop := 0 ≤ val (vr v) a b ∧ val (vr v) a b < tot v
/-- a MOVE from the order f to the order h: the first part's change -/
def shA (v : Mv) (A : Nat → Int) (f h : Nat → Nat) (x : Int) : Int := ps A h (posI h (f (sidx v f x)) (vn v)) - ps A f (sidx v f x)
theorem go_on {v : Mv} (hv : Vd v) {f h : Nat → Nat} (hf : Perm f (vn v)) (hh : Perm h (vn v)) {a b : Int} (ho : onL v a b) : onL v (a + shA v (vA v) f h (val (vr v) a b)) (b + shA v (vB v) f h (val (vr v) a b)) := by
  obtain ⟨h0, h1⟩ := ho
  rw [← hv.tot hf] at h1
  obtain ⟨s1, s2, s3⟩ := sidx_spec h0 h1
  obtain ⟨p1, p2⟩ := posI_spec hh (hf.1 _ s1)
  unfold onL
  rw [val_add]
  unfold shA
  rw [val_sub, ← vL_ps, ← vL_ps]
  have m1 := hv.mono hh (i := 0) (j := posI h (f (sidx v f (val (vr v) a b))) (vn v)) (by omega) (by omega)
  have m2 := hv.mono hh (i := posI h (f (sidx v f (val (vr v) a b))) (vn v) + 1) (j := vn v) (by omega) (by omega)
  rw [hv.tot hh] at m2
  simp only [ps] at s3 m1 m2
  rw [p2] at m2
  omega
