def mTf (h : Nat → Nat) (n : Nat) : Nat → Nat
  | 0 => 0
  | c + 1 => if h c = c ∧ mTf h n c < nTu h n c then nTu h n c else mTf h n c
theorem nTu_ker {f h : Nat → Nat} {n : Nat} (hk : ∀ c d, f c = f d ↔ h c = h d) (c : Nat) : nTu f n c = nTu h n c := by
  unfold nTu
  refine fb_ct_cong (fun b _ => ?_)
  by_cases z : f (b + 1) = f c
  · rw [beq_iff_eq.mpr z, beq_iff_eq.mpr ((hk _ _).mp z)]
  · rw [beq_eq_false_iff_ne.mpr z, beq_eq_false_iff_ne.mpr (fun w => z ((hk _ _).mpr w))]
theorem nTu_same {f : Nat → Nat} {n c d : Nat} (e : f c = f d) : nTu f n c = nTu f n d := by
  unfold nTu
  rw [e]
theorem mTu_ge (f : Nat → Nat) (n : Nat) : ∀ N c, c < N → nTu f n c ≤ mTu f n N
  | 0, c, h => by omega
  | N + 1, c, h => by
    rw [mTu]
    rcases Nat.lt_or_ge c N with z | z
    · have := mTu_ge f n N c z
      split <;> omega
    · obtain rfl : c = N := by omega
      split <;> omega
theorem mTu_is (f : Nat → Nat) (n : Nat) : ∀ N, mTu f n N = 0 ∨ ∃ c, c < N ∧ mTu f n N = nTu f n c
  | 0 => Or.inl rfl
  | N + 1 => by
    rw [mTu]
    split
    · exact Or.inr ⟨N, by omega, rfl⟩
    · rcases mTu_is f n N with z | ⟨c, hc, z⟩
      · exact Or.inl z
      · exact Or.inr ⟨c, by omega, z⟩
theorem mTf_ge (f : Nat → Nat) (n : Nat) : ∀ N c, c < N → f c = c → nTu f n c ≤ mTf f n N
  | 0, c, h, _ => by omega
  | N + 1, c, h, hc => by
    rw [mTf]
    rcases Nat.lt_or_ge c N with z | z
    · have := mTf_ge f n N c z hc
      split <;> omega
    · obtain rfl : c = N := by omega
      split
      · omega
      · next q => exact Nat.not_lt.mp (fun w => q ⟨hc, w⟩)
theorem mTf_is (f : Nat → Nat) (n : Nat) : ∀ N, mTf f n N = 0 ∨ ∃ c, c < N ∧ f c = c ∧ mTf f n N = nTu f n c
  | 0 => Or.inl rfl
  | N + 1 => by
    rw [mTf]
    split
    · next q => exact Or.inr ⟨N, by omega, q.1, rfl⟩
    · rcases mTf_is f n N with z | ⟨c, hc, hc2, z⟩
      · exact Or.inl z
      · exact Or.inr ⟨c, by omega, hc2, z⟩
theorem mT_eq {f h : Nat → Nat} {n N : Nat} (hh : ∀ c, h (h c) = h c) (lh : ∀ c, c < N → h c < N) (hk : ∀ c d, f c = f d ↔ h c = h d) : mTu f n N = mTf h n N := by
  apply Nat.le_antisymm
  · rcases mTu_is f n N with z | ⟨c, hc, z⟩
    · omega
    · rw [z, nTu_ker hk c, nTu_same (f := h) (d := h c) (hh c).symm]
      exact mTf_ge h n N (h c) (lh c hc) (hh c)
  · rcases mTf_is h n N with z | ⟨c, hc, hc2, z⟩
    · omega
    · rw [z, ← nTu_ker hk c]
      exact mTu_ge f n N c hc
