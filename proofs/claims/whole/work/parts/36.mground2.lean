/-- turns of the label c among the first k corners -/
def tuK (h : Nat → Nat) (n c k : Nat) : Nat := fb_ct (fun j => h j == c && (decide (0 < j) && decide (j < n))) k
def inK (h : Nat → Nat) (c k : Nat) : Int := if 0 < fb_ct (fun j => h j == c) k then 1 else 0
theorem tuK_n {h : Nat → Nat} {n c : Nat} (hn : 1 ≤ n) (hc : h c = c) : ∀ N, n ≤ N → tuK h n c N = nTu h n c
  | 0, hN => by omega
  | N + 1, hN => by
    rcases Nat.lt_or_ge N n with z | z
    · obtain rfl : n = N + 1 := by omega
      unfold tuK nTu
      rw [show N + 1 = 1 + N by omega, fb_ct_split, show 1 + N - 1 = N by omega]
      have e0 : fb_ct (fun j => h j == c && (decide (0 < j) && decide (j < 1 + N))) 1 = 0 := by simp [fb_ct]
      rw [e0, Nat.zero_add]
      refine fb_ct_cong (fun k hk => ?_)
      rw [hc, Nat.add_comm 1 k]
      simp
      omega
    · have := tuK_n hn hc N z
      unfold tuK at this ⊢
      rw [fb_ct_succ, this, if_neg (by simp; omega)]
      rfl
theorem inK_n {h : Nat → Nat} {c N : Nat} (hh : ∀ c, h (h c) = h c) (hc : c < N) : inK h c N = if h c = c then 1 else 0 := by
  unfold inK
  by_cases z : h c = c
  · rw [if_pos z, if_pos (fb_ct_pos.mpr ⟨c, hc, by simpa using z⟩)]
  · rw [if_neg z, if_neg]
    intro w
    obtain ⟨k, hk, e⟩ := fb_ct_pos.mp w
    have e1 : h k = c := by simpa using e
    exact z (by rw [← e1]; exact hh k)
