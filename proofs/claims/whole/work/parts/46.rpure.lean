/-! ROUNDS: pieces that move, as numbers -/
def itP (to : Nat → Nat) : Nat → Nat → Nat
  | 0, k => k
  | i + 1, k => to (itP to i k)
theorem itP_add (to : Nat → Nat) (i k : Nat) : ∀ j, itP to (j + i) k = itP to j (itP to i k)
  | 0 => by rw [Nat.zero_add]; rfl
  | j + 1 => by rw [Nat.succ_add, itP, itP, itP_add to i k j]
def Pcs (N : Nat) (to rm : Nat → Nat) : Prop := (∀ k, k < N → to k < N) ∧ (∀ i j, i < N → j < N → to i = to j → i = j) ∧ (∀ k, k < N → 1 ≤ rm k ∧ k + rm k ≤ N) ∧ ∀ k, k < N → 2 ≤ rm k → rm (k + 1) + 1 = rm k ∧ to (k + 1) = to k + 1
theorem itP_lt {N : Nat} {to rm : Nat → Nat} (h : Pcs N to rm) {k : Nat} (hk : k < N) : ∀ i, itP to i k < N
  | 0 => hk
  | i + 1 => h.1 _ (itP_lt h hk i)
theorem itP_inj {N : Nat} {to rm : Nat → Nat} (h : Pcs N to rm) {k q : Nat} (hk : k < N) (hq : q < N) : ∀ i, itP to i k = itP to i q → k = q
  | 0, e => e
  | i + 1, e => itP_inj h hk hq i (h.2.1 _ _ (itP_lt h hk i) (itP_lt h hq i) e)
def perP (N : Nat) (to : Nat → Nat) (k : Nat) : Nat := srch (fun t => itP to t k == k) 1 N
theorem perP_ex {N : Nat} {to rm : Nat → Nat} (h : Pcs N to rm) {k : Nat} (hk : k < N) : ∃ t, 1 ≤ t ∧ t ≤ N ∧ itP to t k = k := by
  obtain ⟨i, j, hij, hj, e⟩ := fb_twice (m := N) (n := N + 1) (f := fun i => itP to i k) (fun i _ => itP_lt h hk i) (by omega)
  refine ⟨j - i, by omega, by omega, ?_⟩
  have e : itP to i k = itP to j k := e
  rw [show j = i + (j - i) by omega, itP_add] at e
  exact (itP_inj h hk (itP_lt h hk _) i e).symm
theorem perP_spec {N : Nat} {to rm : Nat → Nat} (h : Pcs N to rm) {k : Nat} (hk : k < N) : 1 ≤ perP N to k ∧ perP N to k ≤ N ∧ itP to (perP N to k) k = k ∧ ∀ t, 1 ≤ t → t < perP N to k → itP to t k ≠ k := by
  obtain ⟨h1, h2, h3, h4⟩ := srch_spec (fun t => itP to t k == k) (n := N) 1 (by omega)
  have h4b : ∀ t, 1 ≤ t → t < perP N to k → itP to t k ≠ k := fun t a b => by
    have := h4 t a b
    simpa using this
  refine ⟨h1, h2, ?_, h4b⟩
  rcases Nat.lt_or_ge (perP N to k) N with z | z
  · have := h3 z
    simpa [perP] using this
  · obtain ⟨t, t1, t2, t3⟩ := perP_ex h hk
    have : t = perP N to k := by
      rcases Nat.lt_or_ge t (perP N to k) with w | w
      · exact absurd t3 (h4b t t1 w)
      · have h2b : perP N to k ≤ N := h2
        omega
    rw [← this]
    exact t3
theorem itP_mod {N : Nat} {to rm : Nat → Nat} (h : Pcs N to rm) {k : Nat} (hk : k < N) : ∀ i, ∃ q, q < perP N to k ∧ itP to q k = itP to i k := by
  obtain ⟨p1, p2, p3, p4⟩ := perP_spec h hk
  intro i
  induction i using Nat.strongRecOn with
  | _ i ih =>
    rcases Nat.lt_or_ge i (perP N to k) with z | z
    · exact ⟨i, z, rfl⟩
    · obtain ⟨q, hq, e⟩ := ih (i - perP N to k) (by omega)
      refine ⟨q, hq, ?_⟩
      rw [e]
      have e2 : itP to i k = itP to ((i - perP N to k) + perP N to k) k := by
        congr 1
        omega
      rw [e2, itP_add, p3]
theorem itP_back {N : Nat} {to rm : Nat → Nat} (h : Pcs N to rm) {k : Nat} (hk : k < N) (i : Nat) : ∃ j, itP to j (itP to i k) = k := by
  obtain ⟨q, hq, e⟩ := itP_mod h hk i
  refine ⟨perP N to k - q, ?_⟩
  rw [← e, ← itP_add, show perP N to k - q + q = perP N to k by omega]
  exact (perP_spec h hk).2.2.1
def mnI (N : Nat) (to rm : Nat → Nat) (k : Nat) : Nat → Nat
  | 0 => N
  | t + 1 => if rm (itP to t k) < mnI N to rm k t then rm (itP to t k) else mnI N to rm k t
def mnP (N : Nat) (to rm : Nat → Nat) (k : Nat) : Nat := mnI N to rm k (perP N to k)
theorem mnI_spec (N : Nat) (to rm : Nat → Nat) (k : Nat) : ∀ t, mnI N to rm k t ≤ N ∧ (∀ q, q < t → mnI N to rm k t ≤ rm (itP to q k)) ∧ (mnI N to rm k t = N ∨ ∃ q, q < t ∧ mnI N to rm k t = rm (itP to q k))
  | 0 => ⟨Nat.le_refl _, fun q hq => by omega, Or.inl rfl⟩
  | t + 1 => by
    obtain ⟨h1, h2, h3⟩ := mnI_spec N to rm k t
    rw [mnI]
    split
    · rename_i z
      refine ⟨by omega, fun q hq => ?_, Or.inr ⟨t, by omega, rfl⟩⟩
      rcases Nat.lt_or_ge q t with w | w
      · have := h2 q w
        omega
      · rw [show q = t by omega]
        exact Nat.le_refl _
    · rename_i z
      refine ⟨h1, fun q hq => ?_, ?_⟩
      · rcases Nat.lt_or_ge q t with w | w
        · exact h2 q w
        · rw [show q = t by omega]
          omega
      · rcases h3 with w | ⟨q, hq, w⟩
        · exact Or.inl w
        · exact Or.inr ⟨q, by omega, w⟩
theorem mn_spec {N : Nat} {to rm : Nat → Nat} (h : Pcs N to rm) {k : Nat} (hk : k < N) : (∀ i, mnP N to rm k ≤ rm (itP to i k)) ∧ (∃ i, i < perP N to k ∧ rm (itP to i k) = mnP N to rm k) ∧ 1 ≤ mnP N to rm k ∧ k + mnP N to rm k ≤ N := by
  obtain ⟨p1, p2, p3, p4⟩ := perP_spec h hk
  obtain ⟨m1, m2, m3⟩ := mnI_spec N to rm k (perP N to k)
  have hall : ∀ i, mnP N to rm k ≤ rm (itP to i k) := fun i => by
    obtain ⟨q, hq, e⟩ := itP_mod h hk i
    rw [← e]
    exact m2 q hq
  have h0 := hall 0
  have r0 := h.2.2.1 k hk
  have hex : ∃ i, i < perP N to k ∧ rm (itP to i k) = mnP N to rm k := by
    rcases m3 with w | ⟨q, hq, w⟩
    · refine ⟨0, by omega, ?_⟩
      have w2 : mnP N to rm k = N := w
      show rm k = _
      have h0b : mnP N to rm k ≤ rm k := h0
      omega
    · exact ⟨q, hq, w.symm⟩
  refine ⟨hall, hex, ?_, ?_⟩
  · obtain ⟨i, _, e⟩ := hex
    rw [← e]
    exact (h.2.2.1 _ (itP_lt h hk i)).1
  · have h0b : mnP N to rm k ≤ rm k := h0
    omega
theorem mn_char {N : Nat} {to rm : Nat → Nat} (h : Pcs N to rm) {k w : Nat} (hk : k < N) (h1 : ∀ i, w ≤ rm (itP to i k)) (h2 : ∃ i, rm (itP to i k) = w) : mnP N to rm k = w := by
  obtain ⟨a, ⟨i, _, e⟩, _, _⟩ := mn_spec h hk
  obtain ⟨j, e2⟩ := h2
  have := a j
  have := h1 i
  omega
theorem to_sh {N : Nat} {to rm : Nat → Nat} (h : Pcs N to rm) {p : Nat} (hp : p < N) : ∀ s, s < rm p → p + s < N ∧ to (p + s) = to p + s ∧ rm (p + s) + s = rm p
  | 0, _ => ⟨hp, rfl, rfl⟩
  | s + 1, hs => by
    obtain ⟨a, b, c⟩ := to_sh h hp s (by omega)
    obtain ⟨d, e⟩ := h.2.2.2 (p + s) a (by omega)
    have r := h.2.2.1 p hp
    refine ⟨by omega, ?_, ?_⟩
    · show to (p + s + 1) = _
      omega
    · show rm (p + s + 1) + (s + 1) = _
      omega
theorem it_sh {N : Nat} {to rm : Nat → Nat} (h : Pcs N to rm) {k s : Nat} (hk : k < N) (hs : s < mnP N to rm k) : ∀ i, itP to i (k + s) = itP to i k + s
  | 0 => rfl
  | i + 1 => by
    rw [itP, itP, it_sh h hk hs i]
    exact (to_sh h (itP_lt h hk i) s (Nat.lt_of_lt_of_le hs ((mn_spec h hk).1 i))).2.1
theorem per_sh {N : Nat} {to rm : Nat → Nat} (h : Pcs N to rm) {k s : Nat} (hk : k < N) (hs : s < mnP N to rm k) : perP N to (k + s) = perP N to k := by
  unfold perP
  refine srch_cong (fun t _ _ => ?_)
  rw [it_sh h hk hs t]
  by_cases z : itP to t k = k
  · rw [z, beq_self_eq_true, beq_self_eq_true]
  · rw [beq_eq_false_iff_ne.mpr z, beq_eq_false_iff_ne.mpr (by omega)]
theorem mn_sh {N : Nat} {to rm : Nat → Nat} (h : Pcs N to rm) {k s : Nat} (hk : k < N) (hs : s < mnP N to rm k) : k + s < N ∧ mnP N to rm (k + s) + s = mnP N to rm k := by
  obtain ⟨a, ⟨i, _, e⟩, b, c⟩ := mn_spec h hk
  have hks : k + s < N := by omega
  refine ⟨hks, ?_⟩
  have hr : ∀ i, rm (itP to i (k + s)) + s = rm (itP to i k) := fun i => by
    rw [it_sh h hk hs i]
    exact (to_sh h (itP_lt h hk i) s (Nat.lt_of_lt_of_le hs (a i))).2.2
  have : mnP N to rm (k + s) = mnP N to rm k - s := mn_char h hks (fun i => by have := hr i; have := a i; omega) ⟨i, by have := hr i; omega⟩
  omega
theorem mn_it {N : Nat} {to rm : Nat → Nat} (h : Pcs N to rm) {k : Nat} (hk : k < N) (i : Nat) : mnP N to rm (itP to i k) = mnP N to rm k := by
  obtain ⟨a, ⟨q, _, e⟩, _, _⟩ := mn_spec h hk
  refine mn_char h (itP_lt h hk i) (fun j => ?_) ?_
  · rw [← itP_add]
    exact a _
  · obtain ⟨j, ej⟩ := itP_back h hk i
    refine ⟨q + j, ?_⟩
    rw [itP_add, ej]
    exact e
/-- p is moved together with q -/
def FamP (N : Nat) (to rm : Nat → Nat) (q p : Nat) : Prop := ∃ i s, s < mnP N to rm q ∧ p = itP to i q + s
def SnP (N : Nat) (to rm : Nat → Nat) (k p : Nat) : Prop := ∃ q, q < k ∧ FamP N to rm q p
theorem fam_self {N : Nat} {to rm : Nat → Nat} (h : Pcs N to rm) {k : Nat} (hk : k < N) (i : Nat) : FamP N to rm k (itP to i k) := ⟨i, 0, (mn_spec h hk).2.2.1, rfl⟩
theorem fam_tr {N : Nat} {to rm : Nat → Nat} (h : Pcs N to rm) {q p x : Nat} (hq : q < N) (h1 : FamP N to rm q p) (h2 : FamP N to rm p x) : FamP N to rm q x := by
  obtain ⟨i, s, hs, e⟩ := h1
  obtain ⟨j, r, hr, e2⟩ := h2
  obtain ⟨a, b⟩ := mn_sh h hq hs
  rw [← it_sh h hq hs] at e
  rw [e, mn_it h a] at hr
  refine ⟨j + i, s + r, by omega, ?_⟩
  rw [e2, e, ← itP_add, it_sh h hq hs]
  omega
noncomputable def unP (N : Nat) (to rm : Nat → Nat) (k : Nat) : Bool := @decide (¬ SnP N to rm k k) (Classical.propDecidable _)
theorem unP_iff {N : Nat} {to rm : Nat → Nat} {k : Nat} : unP N to rm k = true ↔ ¬ SnP N to rm k k := @decide_eq_true_iff _ (Classical.propDecidable _)
theorem sn_s {N : Nat} {to rm : Nat → Nat} {k p : Nat} : SnP N to rm (k + 1) p ↔ SnP N to rm k p ∨ FamP N to rm k p := by
  constructor
  · rintro ⟨q, hq, hf⟩
    rcases Nat.lt_or_ge q k with z | z
    · exact Or.inl ⟨q, z, hf⟩
    · rw [show q = k by omega] at hf
      exact Or.inr hf
  · rintro (⟨q, hq, hf⟩ | hf)
    · exact ⟨q, by omega, hf⟩
    · exact ⟨k, by omega, hf⟩
theorem sn_skip {N : Nat} {to rm : Nat → Nat} (h : Pcs N to rm) {k : Nat} (hk : k < N) (hs : SnP N to rm k k) (p : Nat) : SnP N to rm (k + 1) p ↔ SnP N to rm k p := by
  rw [sn_s]
  constructor
  · rintro (z | z)
    · exact z
    · obtain ⟨q, hq, hf⟩ := hs
      exact ⟨q, hq, fam_tr h (by omega) hf z⟩
  · exact Or.inl
theorem un_first {N : Nat} {to rm : Nat → Nat} {k : Nat} (hu : ¬ SnP N to rm k k) (h0 : 0 < k) : mnP N to rm (k - 1) < 2 := by
  rcases Nat.lt_or_ge (mnP N to rm (k - 1)) 2 with z | z
  · exact z
  · exact absurd ⟨k - 1, by omega, 0, 1, by omega, by show k = k - 1 + 1; omega⟩ hu
theorem un_orbit {N : Nat} {to rm : Nat → Nat} (h : Pcs N to rm) {k : Nat} (hk : k < N) (hu : ¬ SnP N to rm k k) (i : Nat) : ¬ SnP N to rm k (itP to i k) := by
  rintro ⟨q, hq, hf⟩
  refine hu ⟨q, hq, fam_tr h (by omega) hf ?_⟩
  obtain ⟨j, e⟩ := itP_back h hk i
  refine ⟨j, 0, ?_, e.symm⟩
  rw [mn_it h hk]
  exact (mn_spec h hk).2.2.1
theorem un_left {N : Nat} {to rm : Nat → Nat} (h : Pcs N to rm) {k : Nat} (hk : k < N) (hu : ¬ SnP N to rm k k) : ∃ i, itP to i k = 0 ∨ (0 < itP to i k ∧ rm (itP to i k - 1) = 1) := by
  rcases Nat.eq_zero_or_pos k with z | z
  · exact ⟨0, Or.inl z⟩
  · have h1 := un_first hu z
    have hk1 : k - 1 < N := by omega
    obtain ⟨a, ⟨i, _, e⟩, b, c⟩ := mn_spec h hk1
    obtain ⟨i, hi, e, hno⟩ := fb_first (p := fun i => rm (itP to i (k - 1)) = 1) (n := i + 1) ⟨i, by omega, by omega⟩
    have key : ∀ q, q ≤ i → itP to q k = itP to q (k - 1) + 1 := by
      intro q
      induction q with
      | zero => intro _; show k = k - 1 + 1; omega
      | succ q ih =>
        intro hq
        rw [itP, itP, ih (by omega)]
        have hl := itP_lt h hk1 q
        have r1 := (h.2.2.1 _ hl).1
        have r2 := hno q (by omega)
        exact (h.2.2.2 _ hl (by omega)).2
    refine ⟨i, Or.inr ?_⟩
    rw [key i (Nat.le_refl _)]
    exact ⟨by omega, e⟩
theorem un_le {N n : Nat} {to rm : Nat → Nat} (h : Pcs N to rm) (σ : Nat → Nat) (h1 : ∀ e, e < N → (e = 0 ∨ (0 < e ∧ rm (e - 1) = 1)) → σ e < n) (h2 : ∀ e d, e < N → d < N → (e = 0 ∨ (0 < e ∧ rm (e - 1) = 1)) → (d = 0 ∨ (0 < d ∧ rm (d - 1) = 1)) → σ e = σ d → e = d) : fb_ct (unP N to rm) N ≤ n := by
  obtain ⟨φ, hφ⟩ := Classical.axiomOfChoice (r := fun k i => k < N → unP N to rm k = true → (itP to i k = 0 ∨ (0 < itP to i k ∧ rm (itP to i k - 1) = 1))) (fun k => by
    by_cases hk : k < N ∧ unP N to rm k = true
    · obtain ⟨i, hi⟩ := un_left h hk.1 (unP_iff.mp hk.2)
      exact ⟨i, fun _ _ => hi⟩
    · exact ⟨0, fun a b => absurd ⟨a, b⟩ hk⟩)
  have hall : fb_ct (fun _ => true) n = n := fb_ct_all.mpr (fun _ _ => rfl)
  rw [← hall]
  have key : ∀ c d, c < d → d < N → unP N to rm d = true → ∀ i j, itP to i c ≠ itP to j d := by
    intro c d hcd hd hud i j e
    have hc : c < N := by omega
    refine unP_iff.mp hud ⟨c, hcd, ?_⟩
    obtain ⟨q, eq⟩ := itP_back h hd j
    rw [← e, ← itP_add] at eq
    rw [← eq]
    exact fam_self h hc _
  refine ct_inj2 (fun k => σ (itP to (φ k) k)) (fun k hk hu => ⟨h1 _ (itP_lt h hk _) (hφ k hk hu), rfl⟩) (fun c d hc hd hpc hpd e => ?_)
  have e2 := h2 _ _ (itP_lt h hc _) (itP_lt h hd _) (hφ c hc hpc) (hφ d hd hpd) e
  rcases Nat.lt_trichotomy c d with z | z | z
  · exact absurd e2 (key c d z hd hpd _ _)
  · exact z
  · exact absurd e2.symm (key d c z hc hpc _ _)
/-! the pieces of THE MOVER -/
noncomputable def pN (v : Mv) : Nat := (ps (vA v) (va v) (vn v)).toNat
def pS (v : Mv) (p : Nat) : Nat := sidx v (va v) (val (vr v) (p : Int) 0)
def pT (v : Mv) (p : Nat) : Nat := (gA v (va v) (vu v) (p : Int) 0).toNat
def pR (v : Mv) (p : Nat) : Nat := (ps (vA v) (va v) (pS v p + 1) - (p : Int)).toNat
theorem val_c (r a : Int) : val r a 0 = a * 1180591620717411303424 := by
  unfold val
  omega
theorem ps_c {v : Mv} (hv : Vd v) (hr : vr v = 0) {f : Nat → Nat} (hf : Perm f (vn v)) {j : Nat} (hj : j ≤ vn v) : ps (vL v) f j = ps (vA v) f j * 1180591620717411303424 := by
  rw [vL_ps, (hv.psA hf hj).2.2 hr, val_c]
theorem pA_mono {v : Mv} (hv : Vd v) (hr : vr v = 0) {f : Nat → Nat} (hf : Perm f (vn v)) {i j : Nat} (hij : i ≤ j) (hj : j ≤ vn v) : ps (vA v) f i + (j - i : Int) ≤ ps (vA v) f j := by
  refine ps_mono (fun k hk => ?_) j hj i hij
  have h := hv.2.2.2.1 _ (hf.1 k hk)
  have h2 := h.2.2.2
  unfold vL at h2
  rw [h.2.2.1 hr, val_c] at h2
  omega
theorem pN_c {v : Mv} (hv : Vd v) (hr : vr v = 0) : (pN v : Int) = ps (vA v) (va v) (vn v) := by
  have := pA_mono hv hr hv.2.2.2.2.1 (i := 0) (j := vn v) (by omega) (Nat.le_refl _)
  simp only [ps] at this
  unfold pN
  omega
theorem pS_spec {v : Mv} (hv : Vd v) (hr : vr v = 0) {p : Nat} (hp : p < pN v) : pS v p < vn v ∧ ps (vA v) (va v) (pS v p) ≤ (p : Int) ∧ (p : Int) < ps (vA v) (va v) (pS v p + 1) := by
  have hf := hv.2.2.2.2.1
  have hN := pN_c hv hr
  obtain ⟨a, b, c⟩ := sidx_spec (v := v) (f := va v) (x := val (vr v) (p : Int) 0) (by rw [val_c]; omega) (by
    rw [ps_c hv hr hf (Nat.le_refl _), val_c]
    omega)
  have a2 : pS v p < vn v := a
  have b2 : ps (vL v) (va v) (pS v p) ≤ val (vr v) (p : Int) 0 := b
  have c2 : val (vr v) (p : Int) 0 < ps (vL v) (va v) (pS v p + 1) := c
  rw [ps_c hv hr hf (by omega), val_c] at b2 c2
  omega
theorem pS_eq {v : Mv} (hv : Vd v) (hr : vr v = 0) {p j : Nat} (hj : j < vn v) (h1 : ps (vA v) (va v) j ≤ (p : Int)) (h2 : (p : Int) < ps (vA v) (va v) (j + 1)) : pS v p = j := by
  have hf := hv.2.2.2.2.1
  refine sidx_eq hv hf hj ?_ ?_
  · rw [ps_c hv hr hf (by omega), val_c]
    omega
  · rw [ps_c hv hr hf (by omega), val_c]
    omega
theorem pB_0 {v : Mv} (hv : Vd v) (hr : vr v = 0) {p : Nat} (hp : p < pN v) : gB v (va v) (vu v) (p : Int) 0 = 0 := by
  have hs := (pS_spec hv hr hp).1
  have hq := (posI_spec hv.2.2.2.2.2.1 (hv.2.2.2.2.1.1 _ hs)).1
  unfold gB shA
  have e1 := (hv.psA hv.2.2.2.2.1 (j := pS v p) (by omega)).2.2 hr
  have e2 := (hv.psA hv.2.2.2.2.2.1 (j := posI (vu v) (va v (pS v p)) (vn v)) (by omega)).2.2 hr
  unfold pS at e1 e2
  rw [e1, e2]
  rfl
theorem pO {v : Mv} (hv : Vd v) (hr : vr v = 0) {p : Nat} (hp : p < pN v) : pV v (p : Int) 0 := by
  have hN := pN_c hv hr
  refine ⟨fun _ => rfl, ?_⟩
  unfold onL
  rw [← hv.tot hv.2.2.2.2.1, ps_c hv hr hv.2.2.2.2.1 (Nat.le_refl _), val_c]
  omega
theorem pT_c {v : Mv} (hv : Vd v) (hr : vr v = 0) {p : Nat} (hp : p < pN v) : (pT v p : Int) = gA v (va v) (vu v) (p : Int) 0 ∧ pT v p < pN v := by
  have hN := pN_c hv hr
  have h := (go_pV hv hv.2.2.2.2.1 hv.2.2.2.2.2.1 (pO hv hr hp)).1.2
  unfold onL at h
  rw [pB_0 hv hr hp, ← hv.tot hv.2.2.2.2.1, ps_c hv hr hv.2.2.2.2.1 (Nat.le_refl _), val_c] at h
  unfold pT
  omega
theorem pT_x {v : Mv} (hv : Vd v) (hr : vr v = 0) {p : Nat} (hp : p < pN v) : (pT v p : Int) = (p : Int) + (ps (vA v) (vu v) (posI (vu v) (va v (pS v p)) (vn v)) - ps (vA v) (va v) (pS v p)) := (pT_c hv hr hp).1
theorem pR_c {v : Mv} (hv : Vd v) (hr : vr v = 0) {p : Nat} (hp : p < pN v) : (pR v p : Int) = ps (vA v) (va v) (pS v p + 1) - (p : Int) := by
  have := pS_spec hv hr hp
  unfold pR
  omega
theorem pcs_ok {v : Mv} (hv : Vd v) (hr : vr v = 0) : Pcs (pN v) (pT v) (pR v) := by
  have hN := pN_c hv hr
  refine ⟨fun k hk => (pT_c hv hr hk).2, fun i j hi hj e => ?_, fun k hk => ?_, fun k hk h2 => ?_⟩
  · have e1 := (pT_c hv hr hi).1
    have e2 := (pT_c hv hr hj).1
    rw [e] at e1
    have i1 := (go_inv hv hv.2.2.2.2.1 hv.2.2.2.2.2.1 (pO hv hr hi).2).1
    have i2 := (go_inv hv hv.2.2.2.2.1 hv.2.2.2.2.2.1 (pO hv hr hj).2).1
    rw [pB_0 hv hr hi, ← e1, e2] at i1
    rw [pB_0 hv hr hj] at i2
    omega
  · have h1 := pR_c hv hr hk
    have h2 := pS_spec hv hr hk
    have h3 := pA_mono hv hr hv.2.2.2.2.1 (i := pS v k + 1) (j := vn v) (by omega) (Nat.le_refl _)
    omega
  · have h1 := pR_c hv hr hk
    have h3 := pS_spec hv hr hk
    have h4 := pA_mono hv hr hv.2.2.2.2.1 (i := pS v k + 1) (j := vn v) (by omega) (Nat.le_refl _)
    have hk1 : k + 1 < pN v := by omega
    have e : pS v (k + 1) = pS v k := pS_eq hv hr h3.1 (by omega) (by omega)
    have h5 := pR_c hv hr hk1
    have t1 := pT_x hv hr hk
    have t2 := pT_x hv hr hk1
    rw [e] at h5 t2
    omega
/-- two pieces side by side are in one SPAN -/
theorem pJ {v : Mv} (hv : Vd v) (hr : vr v = 0) {p : Nat} (hp : p < pN v) : 2 ≤ pR v p ↔ (p + 1 < pN v ∧ va v (pS v p) = va v (pS v (p + 1))) := by
  have hN := pN_c hv hr
  have h1 := pR_c hv hr hp
  have h3 := pS_spec hv hr hp
  constructor
  · intro h2
    have h4 := pA_mono hv hr hv.2.2.2.2.1 (i := pS v p + 1) (j := vn v) (by omega) (Nat.le_refl _)
    have hk1 : p + 1 < pN v := by omega
    refine ⟨hk1, ?_⟩
    rw [show pS v (p + 1) = pS v p from pS_eq hv hr h3.1 (by omega) (by omega)]
  · rintro ⟨hk1, e⟩
    have h4 := pS_spec hv hr hk1
    have e2 := hv.2.2.2.2.1.2 _ _ h3.1 h4.1 e
    rw [← e2] at h4
    omega
theorem p_left {v : Mv} (hv : Vd v) (hr : vr v = 0) {e : Nat} (he : e < pN v) (hl : e = 0 ∨ (0 < e ∧ pR v (e - 1) = 1)) : (e : Int) = ps (vA v) (va v) (pS v e) := by
  have hN := pN_c hv hr
  have hn := hv.1
  rcases hl with z | ⟨z, z2⟩
  · subst z
    have h1 := pA_mono hv hr hv.2.2.2.2.1 (i := 0) (j := 1) (by omega) (by omega)
    have e0 : ps (vA v) (va v) 0 = 0 := rfl
    rw [show pS v 0 = 0 from pS_eq hv hr (by omega) (by omega) (by rw [Nat.zero_add]; omega)]
    rfl
  · have hp : e - 1 < pN v := by omega
    have h1 := pR_c hv hr hp
    have h3 := pS_spec hv hr hp
    have hlt : pS v (e - 1) + 1 < vn v := by
      rcases Nat.lt_or_ge (pS v (e - 1) + 1) (vn v) with w | w
      · exact w
      · rw [show pS v (e - 1) + 1 = vn v by omega] at h1
        omega
    have h4 := pA_mono hv hr hv.2.2.2.2.1 (i := pS v (e - 1) + 1) (j := pS v (e - 1) + 1 + 1) (by omega) (by omega)
    have e2 : pS v e = pS v (e - 1) + 1 := pS_eq hv hr hlt (by omega) (by omega)
    rw [e2]
    omega
noncomputable def nRd (v : Mv) (k : Nat) : Nat := fb_ct (unP (pN v) (pT v) (pR v)) k
theorem nRd_le {v : Mv} (hv : Vd v) (hr : vr v = 0) : nRd v (pN v) ≤ vn v := by
  refine un_le (pcs_ok hv hr) (pS v) (fun e he _ => (pS_spec hv hr he).1) (fun e d he hd le ld es => ?_)
  have h1 := p_left hv hr he le
  have h2 := p_left hv hr hd ld
  rw [es] at h1
  omega
