/-! THE CLASS: orders named by their place above -/
def uW (n : Nat) (f : Nat → Nat) : Nat → Nat := brg f (posI f (n - 1) n) (f (n - 1))
def vW (n : Nat) (f : Nat → Nat) : Nat → Nat := fun j => if f j ≤ f (n - 1) then f j else if f j = n - 1 then f (n - 1) + 1 else f j + 1
def nmA (v : Mv) : Nat → Nat := fun j => posI (va v) (vu v j) (vn v)
def sameB (n : Nat) (f h : Nat → Nat) : Bool := (List.range n).all (fun j => f j == h j)
theorem sameB_iff {n : Nat} {f h : Nat → Nat} : sameB n f h = true ↔ ∀ j, j < n → f j = h j := by
  simp [sameB]
abbrev Ol : Type := (Nat → Nat → Nat) × Nat
def hasB (n : Nat) (L : Nat → Nat → Nat) : Nat → (Nat → Nat) → Bool
  | 0, _ => false
  | c + 1, f => hasB n L c f || sameB n (L c) f
theorem hasB_iff (n : Nat) (L : Nat → Nat → Nat) : ∀ (c : Nat) (f : Nat → Nat), hasB n L c f = true ↔ ∃ i, i < c ∧ ∀ j, j < n → L i j = f j
  | 0, f => by simp [hasB]
  | c + 1, f => by
    rw [hasB, Bool.or_eq_true, hasB_iff n L c f, sameB_iff]
    constructor
    · rintro (⟨i, hi, h⟩ | h)
      · exact ⟨i, by omega, h⟩
      · exact ⟨c, by omega, h⟩
    · rintro ⟨i, hi, h⟩
      rcases Nat.lt_or_ge i c with z | z
      · exact Or.inl ⟨i, z, h⟩
      · obtain rfl : i = c := by omega
        exact Or.inr h
def tk (n : Nat) (S : Ol) (f : Nat → Nat) : Ol := if hasB n S.1 S.2 f = true then S else (fun i => if i = S.2 then f else S.1 i, S.2 + 1)
def exO (n : Nat) (S : Ol) (i : Nat) : Ol := if S.1 i (n - 1) = n - 1 then S else tk n (tk n S (uW n (S.1 i))) (vW n (S.1 i))
def bfO (n : Nat) : Nat → Ol → Nat → Ol
  | 0, S, _ => S
  | d + 1, S, i => if i < S.2 then bfO n d (exO n S i) (i + 1) else S
def GdO (n : Nat) (S : Ol) : Prop := (∀ i, i < S.2 → Perm (S.1 i) n) ∧ ∀ i k, i < k → k < S.2 → ¬ ∀ j, j < n → S.1 i j = S.1 k j
theorem tk_pre {n : Nat} {S : Ol} {f : Nat → Nat} : S.2 ≤ (tk n S f).2 ∧ ∀ i, i < S.2 → (tk n S f).1 i = S.1 i := by
  unfold tk
  split
  · exact ⟨Nat.le_refl _, fun _ _ => rfl⟩
  · refine ⟨by simp, fun i hi => ?_⟩
    have z : i ≠ S.2 := by omega
    simp only [if_neg z]
theorem GdO.tkk {n : Nat} {S : Ol} {f : Nat → Nat} (h : GdO n S) (hf : Perm f n) : GdO n (tk n S f) := by
  unfold tk
  split
  · exact h
  · rename_i hq
    have hq2 : ¬ ∃ i, i < S.2 ∧ ∀ j, j < n → S.1 i j = f j := fun z => hq ((hasB_iff _ _ _ _).mpr z)
    refine ⟨fun i hi => ?_, fun i k hik hk => ?_⟩
    · by_cases z : i = S.2
      · simp only [if_pos z]; exact hf
      · simp only [if_neg z]
        exact h.1 i (by simp at hi; omega)
    · have hk2 : k < S.2 + 1 := hk
      have z1 : i ≠ S.2 := by omega
      simp only [if_neg z1]
      by_cases z : k = S.2
      · simp only [if_pos z]
        exact fun w => hq2 ⟨i, by omega, w⟩
      · simp only [if_neg z]
        exact h.2 i k hik (by omega)
/-! ranks -/
def lsB (f : Nat → Nat) (i : Nat) : Nat → Bool := fun q => decide (i < q) && decide (f q < f i)
def lss (n : Nat) (f : Nat → Nat) (i : Nat) : Nat := fb_ct (lsB f i) n
def rkl (n : Nat) (f : Nat → Nat) : Nat → Nat
  | 0 => 0
  | i + 1 => rkl n f i * (n - i) + lss n f i
theorem lss_0 (f : Nat → Nat) (i : Nat) : fb_ct (lsB f i) (i + 1) = 0 := by
  rw [fb_ct_zero]
  intro k hk
  unfold lsB
  rw [decide_eq_false (by omega)]
  rfl
theorem lss_le {n : Nat} (f : Nat → Nat) {i : Nat} (h : i < n) : lss n f i ≤ n - 1 - i := by
  unfold lss
  have h1 := fb_ct_split (lsB f i) (i + 1) (n - (i + 1))
  rw [show i + 1 + (n - (i + 1)) = n by omega, lss_0] at h1
  have h2 := fb_ct_le (fun k => lsB f i (i + 1 + k)) (n - (i + 1))
  omega
theorem lss_lt {n j : Nat} {f h : Nat → Nat} (hf : Perm f n) (hh : Perm h n) (hj : j < n) (hp : ∀ q, q < j → f q = h q) (hl : f j < h j) : lss n f j < lss n h j := by
  have h1 := fb_ct_upd (lsB f j) true (i := j) (n := n) hj
  rw [if_neg (by unfold lsB; simp), if_pos rfl] at h1
  have h2 : fb_ct (fun k => if k = j then true else lsB f j k) n ≤ fb_ct (lsB h j) n := by
    refine ct_inj (fun q => posI h (f q) n) (fun c hc hpc => ?_) (fun c d hc hd _ _ e => ?_)
    · obtain ⟨p1, p2⟩ := posI_spec hh (hf.1 c hc)
      have q1 : j ≤ c ∧ f c ≤ f j := by
        by_cases z : c = j
        · subst z; exact ⟨Nat.le_refl _, Nat.le_refl _⟩
        · rw [if_neg z] at hpc
          unfold lsB at hpc
          simp only [Bool.and_eq_true, decide_eq_true_eq] at hpc
          omega
      refine ⟨p1, ?_⟩
      have q2 : j < posI h (f c) n := by
        rcases Nat.lt_trichotomy (posI h (f c) n) j with z | z | z
        · have e := hp _ z
          rw [p2] at e
          have := hf.2 _ _ (by omega) hc e
          omega
        · rw [z] at p2
          omega
        · exact z
      unfold lsB
      simp only [Bool.and_eq_true, decide_eq_true_eq]
      rw [p2]
      omega
    · obtain ⟨p1, p2⟩ := posI_spec hh (hf.1 c hc)
      obtain ⟨p3, p4⟩ := posI_spec hh (hf.1 d hd)
      have e : posI h (f c) n = posI h (f d) n := e
      rw [e, p4] at p2
      exact (hf.2 _ _ hd hc p2).symm
  unfold lss
  omega
theorem lss_inj {n : Nat} {f h : Nat → Nat} (hf : Perm f n) (hh : Perm h n) (he : ∀ i, i < n → lss n f i = lss n h i) : ∀ j, j < n → f j = h j := by
  intro j
  induction j using Nat.strongRecOn with
  | _ j ih =>
    intro hj
    have hp : ∀ q, q < j → f q = h q := fun q hq => ih q hq (by omega)
    rcases Nat.lt_trichotomy (f j) (h j) with z | z | z
    · have := lss_lt hf hh hj hp z
      have := he j hj
      omega
    · exact z
    · have := lss_lt hh hf hj (fun q hq => (hp q hq).symm) z
      have := he j hj
      omega
theorem mix_eq {a b x y m : Nat} (hx : x < m) (hy : y < m) (e : a * m + x = b * m + y) : a = b ∧ x = y := by
  have h1 : (a * m + x) % m = x := by rw [Nat.mul_comm, Nat.mul_add_mod, Nat.mod_eq_of_lt hx]
  have h2 : (b * m + y) % m = y := by rw [Nat.mul_comm, Nat.mul_add_mod, Nat.mod_eq_of_lt hy]
  have h3 : x = y := by rw [← h1, ← h2, e]
  subst h3
  have h4 : a * m = b * m := by omega
  exact ⟨Nat.eq_of_mul_eq_mul_right (by omega) h4, rfl⟩
theorem rkl_dig {n : Nat} {f h : Nat → Nat} : ∀ i, i ≤ n → rkl n f i = rkl n h i → ∀ q, q < i → lss n f q = lss n h q
  | 0, _, _, q, hq => by omega
  | i + 1, hi, e, q, hq => by
    rw [rkl, rkl] at e
    have l1 := lss_le f (n := n) (i := i) (by omega)
    have l2 := lss_le h (n := n) (i := i) (by omega)
    obtain ⟨e1, e2⟩ := mix_eq (by omega) (by omega) e
    rcases Nat.lt_or_ge q i with z | z
    · exact rkl_dig i (by omega) e1 q z
    · obtain rfl : q = i := by omega
      exact e2
theorem rkl_inj {n : Nat} {f h : Nat → Nat} (hf : Perm f n) (hh : Perm h n) (e : rkl n f n = rkl n h n) : ∀ j, j < n → f j = h j := lss_inj hf hh (rkl_dig n (Nat.le_refl _) e)
theorem rkl_cong {n : Nat} {f h : Nat → Nat} (e : ∀ j, j < n → f j = h j) : ∀ i, i ≤ n → rkl n f i = rkl n h i
  | 0, _ => rfl
  | i + 1, hi => by
    rw [rkl, rkl, rkl_cong e i (by omega)]
    congr 1
    unfold lss
    refine fb_ct_cong (fun k hk => ?_)
    unfold lsB
    rw [e k hk, e i (by omega)]
theorem rkl_lt {n : Nat} (h : 2 ≤ n ∧ n ≤ 6) (f : Nat → Nat) : ∀ i, i ≤ n → rkl n f i < 720 := by
  intro i hi
  have l0 := lss_le (n := n) f (i := 0)
  have l1 := lss_le (n := n) f (i := 1)
  have l2 := lss_le (n := n) f (i := 2)
  have l3 := lss_le (n := n) f (i := 3)
  have l4 := lss_le (n := n) f (i := 4)
  have l5 := lss_le (n := n) f (i := 5)
  rcases (show n = 2 ∨ n = 3 ∨ n = 4 ∨ n = 5 ∨ n = 6 by omega) with e | e | e | e | e <;> subst e
  all_goals
    rcases (show i = 0 ∨ i = 1 ∨ i = 2 ∨ i = 3 ∨ i = 4 ∨ i = 5 ∨ i = 6 by omega) with e | e | e | e | e | e | e <;> subst e
  all_goals first
    | (simp only [rkl]; omega)
    | omega
theorem GdO.le {n : Nat} (hn : 2 ≤ n ∧ n ≤ 6) {S : Ol} (h : GdO n S) : S.2 ≤ 720 := by
  refine fb_holes 720 S.2 (fun i => rkl n (S.1 i) n) (fun i hi => rkl_lt hn _ n (Nat.le_refl _)) (fun i j hij hj e => ?_)
  exact h.2 i j hij hj (rkl_inj (h.1 i (by omega)) (h.1 j hj) e)
theorem hasB_rk {n : Nat} {S : Ol} {f : Nat → Nat} (h : GdO n S) (hf : Perm f n) : hasB n S.1 S.2 f = true ↔ ∃ i, i < S.2 ∧ rkl n (S.1 i) n = rkl n f n := by
  rw [hasB_iff]
  constructor
  · rintro ⟨i, hi, e⟩
    exact ⟨i, hi, rkl_cong e n (Nat.le_refl _)⟩
  · rintro ⟨i, hi, e⟩
    exact ⟨i, hi, rkl_inj (h.1 i hi) hf e⟩
/-! packed orders -/
def pkl (b : Nat) (f : Nat → Nat) : Nat → Nat
  | 0 => 0
  | j + 1 => pkl b f j + f j * b ^ j
theorem pkl_lt {b : Nat} {f : Nat → Nat} : ∀ n, (∀ j, j < n → f j < b) → pkl b f n < b ^ n
  | 0, _ => by simp [pkl]
  | n + 1, h => by
    have h1 := pkl_lt n (fun j hj => h j (by omega))
    have h2 := h n (by omega)
    rw [pkl, Nat.pow_succ]
    have h3 : (f n + 1) * b ^ n ≤ b * b ^ n := Nat.mul_le_mul_right _ h2
    rw [Nat.add_mul, Nat.one_mul] at h3
    rw [Nat.mul_comm (b ^ n) b]
    omega
theorem pkl_dig {b : Nat} {f : Nat → Nat} (hb : 0 < b) : ∀ n, (∀ j, j < n → f j < b) → ∀ j, j < n → pkl b f n / b ^ j % b = f j
  | 0, _, j, hj => by omega
  | n + 1, h, j, hj => by
    have hp : 0 < b ^ j := Nat.pow_pos hb
    rw [pkl]
    rcases Nat.lt_or_ge j n with z | z
    · have e : f n * b ^ n = b ^ j * (b * (b ^ (n - j - 1) * f n)) := by
        have : b ^ n = b ^ j * (b * b ^ (n - j - 1)) := by
          rw [← Nat.pow_succ', ← Nat.pow_add]
          congr 1
          omega
        rw [this]
        simp only [Nat.mul_comm, Nat.mul_left_comm]
      rw [e, Nat.add_mul_div_left _ _ hp, Nat.add_mul_mod_self_left]
      exact pkl_dig hb n (fun j hj => h j (by omega)) j z
    · obtain rfl : j = n := by omega
      rw [Nat.mul_comm, Nat.add_mul_div_left _ _ hp, Nat.div_eq_of_lt (pkl_lt j (fun q hq => h q (by omega))), Nat.zero_add, Nat.mod_eq_of_lt (h j (by omega))]
theorem pkl_cong {b : Nat} {f h : Nat → Nat} : ∀ n, (∀ j, j < n → f j = h j) → pkl b f n = pkl b h n
  | 0, _ => rfl
  | n + 1, e => by rw [pkl, pkl, pkl_cong n (fun j hj => e j (by omega)), e n (by omega)]
theorem pkl_inj {b n : Nat} {f h : Nat → Nat} (hb : 0 < b) (hf : ∀ j, j < n → f j < b) (hh : ∀ j, j < n → h j < b) (e : pkl b f n = pkl b h n) : ∀ j, j < n → f j = h j := by
  intro j hj
  rw [← pkl_dig hb n hf j hj, ← pkl_dig hb n hh j hj, e]
/-! both winners -/
theorem uW_perm {n : Nat} {f : Nat → Nat} (hn : 2 ≤ n) (hf : Perm f n) (hne : f (n - 1) ≠ n - 1) : Perm (uW n f) n := brg_perm hf (last_ne hf (by omega) hne)
theorem vW_perm {n : Nat} {f : Nat → Nat} (hn : 2 ≤ n) (hf : Perm f n) (hne : f (n - 1) ≠ n - 1) : Perm (vW n f) n := by
  have hv := hf.1 (n - 1) (by omega)
  refine ⟨fun j hj => ?_, fun i j hi hj e => ?_⟩
  · have h1 := hf.1 j hj
    unfold vW
    repeat' split
    all_goals omega
  · have h1 := hf.1 i hi
    have h2 := hf.1 j hj
    refine hf.2 i j hi hj ?_
    unfold vW at e
    split at e <;> split at e
    all_goals first
      | omega
      | (split at e <;> first | omega | (split at e <;> omega))
theorem up_perm {n w : Nat} (hw : w + 1 < n) : Perm (brg (fun k => k) w (n - 1)) n := brg_perm (f := fun k => k) (Perm.id n) hw
theorem up_pos {n w x : Nat} (hw : w + 1 < n) (hx : x < n) : posI (brg (fun k => k) w (n - 1)) x n = if x ≤ w then x else if x = n - 1 then w + 1 else x + 1 := by
  have h := up_perm hw
  have hy : ∀ y, y < n → brg (fun k => k) w (n - 1) y = x → posI (brg (fun k => k) w (n - 1)) x n = y := fun y hy e => by
    rw [← e]
    exact posI_eq h hy
  split
  · refine hy _ hx ?_
    unfold brg
    rw [if_pos (by omega)]
  · split
    · refine hy _ (by omega) ?_
      unfold brg
      rw [if_neg (by omega), if_pos rfl]
      omega
    · refine hy _ (by omega) ?_
      unfold brg
      rw [if_neg (by omega), if_neg (by omega)]
      show x + 1 - 1 = x
      omega
theorem id_pos {n x : Nat} (hx : x < n) : posI (fun k => k) x n = x := posI_eq (f := fun k => k) (Perm.id n) hx
theorem nmA_perm {v : Mv} (hv : Vd v) : Perm (nmA v) (vn v) := by
  refine ⟨fun j hj => (posI_spec hv.2.2.2.2.1 (hv.2.2.2.2.2.1.1 j hj)).1, fun i j hi hj e => ?_⟩
  have h1 := (posI_spec hv.2.2.2.2.1 (hv.2.2.2.2.2.1.1 i hi)).2
  have h2 := (posI_spec hv.2.2.2.2.1 (hv.2.2.2.2.2.1.1 j hj)).2
  unfold nmA at e
  rw [e, h2] at h1
  exact (hv.2.2.2.2.2.1.2 j i hj hi h1).symm
theorem GdO.ex {n : Nat} (hn : 2 ≤ n) {S : Ol} {i : Nat} (h : GdO n S) (hi : i < S.2) : GdO n (exO n S i) := by
  unfold exO
  split
  · exact h
  · rename_i hq
    exact (h.tkk (uW_perm hn (h.1 i hi) hq)).tkk (vW_perm hn (h.1 i hi) hq)
def kinN (v : Mv) : Nat := (bfO (vn v) 721 (tk (vn v) (fun _ _ => 0, 0) (nmA v)) 0).2
