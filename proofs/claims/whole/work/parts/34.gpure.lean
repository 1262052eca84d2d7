/-! both labelings count alike -/
def lbM (v : Mv) : Nat → (Nat → Nat)
  | 0 => fun c => c
  | k + 1 => jn (jn (lbM v k) (cb (vn v) (posI (vu v) k (vn v))) (posI (va v) k (vn v))) (cb (vn v) (posI (vu v) k (vn v) + 1)) (posI (va v) k (vn v) + 1)
theorem lbM_idem (v : Mv) : ∀ i c, lbM v i (lbM v i c) = lbM v i c
  | 0, _ => rfl
  | i + 1, c => jn_idem (jn_idem (lbM_idem v i) _ _) _ _ c
theorem lbM_lt {v : Mv} (hv : Vd v) : ∀ i, i ≤ vn v → ∀ c, c < 2 * vn v → lbM v i c < 2 * vn v
  | 0, _, _, hc => hc
  | i + 1, hi, c, hc => by
    have h2 := hv.1
    have h3 := posI_spec hv.2.2.2.2.2.1 (k := i) (by omega)
    exact jn_lt (jn_lt (lbM_lt hv i (by omega)) (cb_lt (by omega) h2)) (cb_lt (by omega) h2) c hc
theorem lbM_to {v : Mv} (hv : Vd v) : ∀ i, i ≤ vn v → ∀ c d, lbM v i c = lbM v i d → Cn v c d
  | 0, _, c, d, h => by
    have e : c = d := h
    rw [e]
    exact (Cn_eq v).refl d
  | i + 1, hi, c, d, h => by
    obtain ⟨p1, p2⟩ := posI_spec hv.2.2.2.2.1 (k := i) (by omega)
    have es : sgm v (posI (va v) i (vn v)) = posI (vu v) i (vn v) := by
      unfold sgm
      rw [p2]
    exact jn_ker (Cn_eq v) ((Cn_eq v).symm (fun R hR hE => hE _ _ ⟨_, p1, Or.inr ⟨rfl, by rw [es]⟩⟩)) (jn_ker (Cn_eq v) ((Cn_eq v).symm (fun R hR hE => hE _ _ ⟨_, p1, Or.inl ⟨rfl, by rw [es]⟩⟩)) (lbM_to hv i (by omega))) c d h
theorem lbM_ed (v : Mv) : ∀ i q, q < i → lbM v i (posI (va v) q (vn v)) = lbM v i (cb (vn v) (posI (vu v) q (vn v))) ∧ lbM v i (posI (va v) q (vn v) + 1) = lbM v i (cb (vn v) (posI (vu v) q (vn v) + 1))
  | 0, q, hq => by omega
  | i + 1, q, hq => by
    rcases Nat.lt_or_ge q i with z | z
    · obtain ⟨h1, h2⟩ := lbM_ed v i q z
      exact ⟨jn_keep (jn_keep h1), jn_keep (jn_keep h2)⟩
    · obtain rfl : q = i := by omega
      exact ⟨jn_keep (jn_edge _ _ _).symm, (jn_edge _ _ _).symm⟩
theorem lbM_iff {v : Mv} (hv : Vd v) (c d : Nat) : lbM v (vn v) c = lbM v (vn v) d ↔ Cn v c d := by
  refine ⟨lbM_to hv _ (Nat.le_refl _) c d, fun h => h (fun c d => lbM v (vn v) c = lbM v (vn v) d) ⟨fun _ => rfl, fun h => h.symm, fun h k => h.trans k⟩ ?_⟩
  rintro c d ⟨i, hi, e⟩
  have hk := hv.2.2.2.2.1.1 i hi
  have h1 := lbM_ed v (vn v) (va v i) hk
  rw [posI_eq hv.2.2.2.2.1 hi] at h1
  rcases e with ⟨e1, e2⟩ | ⟨e1, e2⟩
  · rw [e1, e2]
    exact h1.1
  · rw [e1, e2]
    exact h1.2
theorem ct_inj {p q : Nat → Bool} {N : Nat} (φ : Nat → Nat) (h : ∀ c, c < N → p c = true → φ c < N ∧ q (φ c) = true) (hi : ∀ c d, c < N → d < N → p c = true → p d = true → φ c = φ d → c = d) : fb_ct p N ≤ fb_ct q N := by
  have hx : ∀ k, ∃ i, k < fb_ct p N → (i < N ∧ p i = true ∧ fb_ct p i = k) := by
    intro k
    rcases Nat.lt_or_ge k (fb_ct p N) with z | z
    · obtain ⟨i, h1⟩ := fb_ct_kth z
      exact ⟨i, fun _ => h1⟩
    · exact ⟨0, fun w => by omega⟩
  let s : Nat → Nat := fun k => (hx k).choose
  have hs : ∀ k, k < fb_ct p N → (s k < N ∧ p (s k) = true ∧ fb_ct p (s k) = k) := fun k hk => (hx k).choose_spec hk
  refine fb_holes (fb_ct q N) (fb_ct p N) (fun k => fb_ct q (φ (s k))) (fun k hk => ?_) (fun i j hij hj e => ?_)
  · obtain ⟨a1, a2, a3⟩ := hs k hk
    obtain ⟨b1, b2⟩ := h _ a1 a2
    have c1 := fb_ct_succ q (φ (s k))
    rw [if_pos b2] at c1
    have c2 := fb_ct_mono q (m := φ (s k) + 1) (n := N) (by omega)
    show fb_ct q (φ (s k)) < fb_ct q N
    omega
  · obtain ⟨a1, a2, a3⟩ := hs i (by omega)
    obtain ⟨d1, d2, d3⟩ := hs j hj
    have e2 := fb_ct_kth_one (h _ a1 a2).2 (h _ d1 d2).2 e
    have e3 := hi _ _ a1 d1 a2 d2 e2
    rw [e3] at a3
    omega
/-- counts of the least names of two labelings with the same kernel -/
theorem fix_le {f h : Nat → Nat} {N : Nat} {t : Nat → Bool} (hf : ∀ c, f (f c) = f c) (hh : ∀ c, h (h c) = h c) (lh : ∀ c, c < N → h c < N) (hk : ∀ c d, f c = f d ↔ h c = h d) (ht : ∀ c d, f c = f d → t c = t d) : fb_ct (fun c => f c == c && t c) N ≤ fb_ct (fun c => h c == c && t c) N := by
  refine ct_inj h (fun c hc hp => ?_) (fun c d hc hd hp hq e => ?_)
  · simp only [Bool.and_eq_true, beq_iff_eq] at hp ⊢
    refine ⟨lh c hc, hh c, ?_⟩
    rw [← ht c (h c) ((hk _ _).mpr (hh c).symm)]
    exact hp.2
  · simp only [Bool.and_eq_true, beq_iff_eq] at hp hq
    have := (hk c d).mpr e
    omega
theorem fix_eq {f h : Nat → Nat} {N : Nat} {t : Nat → Bool} (hf : ∀ c, f (f c) = f c) (hh : ∀ c, h (h c) = h c) (lf : ∀ c, c < N → f c < N) (lh : ∀ c, c < N → h c < N) (hk : ∀ c d, f c = f d ↔ h c = h d) (ht : ∀ c d, f c = f d → t c = t d) : fb_ct (fun c => f c == c && t c) N = fb_ct (fun c => h c == c && t c) N :=
  Nat.le_antisymm (fix_le hf hh lh hk ht) (fix_le hh hf lf (fun c d => (hk c d).symm) (fun c d e => ht c d ((hk c d).mpr e)))
