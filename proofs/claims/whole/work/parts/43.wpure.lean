/-! WORDS: a MOVE backwards, as numbers -/
theorem go_inv {v : Mv} (hv : Vd v) {f h : Nat → Nat} (hf : Perm f (vn v)) (hh : Perm h (vn v)) {a b : Int} (ho : onL v a b) : gA v h f (gA v f h a b) (gB v f h a b) = a ∧ gB v h f (gA v f h a b) (gB v f h a b) = b := by
  obtain ⟨h0, h1⟩ := ho
  rw [← hv.tot hf] at h1
  obtain ⟨s1, s2, s3⟩ := sidx_spec h0 h1
  obtain ⟨p1, p2⟩ := posI_spec hh (hf.1 _ s1)
  obtain ⟨s, es⟩ : ∃ s, s = sidx v f (val (vr v) a b) := ⟨_, rfl⟩
  rw [← es] at s1 s2 s3 p1 p2
  obtain ⟨t, et⟩ : ∃ t, t = posI h (f s) (vn v) := ⟨_, rfl⟩
  rw [← et] at p1 p2
  have eA : gA v f h a b = a + (ps (vA v) h t - ps (vA v) f s) := by
    unfold gA shA
    rw [← es, ← et]
  have eB : gB v f h a b = b + (ps (vB v) h t - ps (vB v) f s) := by
    unfold gB shA
    rw [← es, ← et]
  have ev : val (vr v) (gA v f h a b) (gB v f h a b) = val (vr v) a b + (ps (vL v) h t - ps (vL v) f s) := by
    rw [eA, eB, val_add, val_sub, ← vL_ps, ← vL_ps]
  have e3 : ps (vL v) f (s + 1) = ps (vL v) f s + vL v (f s) := rfl
  have e4 : ps (vL v) h (t + 1) = ps (vL v) h t + vL v (h t) := rfl
  rw [p2] at e4
  have hs : sidx v h (val (vr v) (gA v f h a b) (gB v f h a b)) = t := sidx_eq hv hh p1 (by rw [ev]; omega) (by rw [ev]; omega)
  have hp : posI f (h t) (vn v) = s := by
    rw [p2]
    exact posI_eq hf s1
  constructor
  · show gA v f h a b + shA v (vA v) h f (val (vr v) (gA v f h a b) (gB v f h a b)) = a
    unfold shA
    rw [hs, hp, eA]
    omega
  · show gB v f h a b + shA v (vB v) h f (val (vr v) (gA v f h a b) (gB v f h a b)) = b
    unfold shA
    rw [hs, hp, eB]
    omega
def bkP (v : Mv) (p : Int × Int) : Int × Int := (gA v (vu v) (va v) p.1 p.2, gB v (vu v) (va v) p.1 p.2)
def bkI (v : Mv) : Nat → Int × Int → Int × Int
  | 0, p => p
  | s + 1, p => bkP v (bkI v s p)
theorem bkI_add (v : Mv) (t : Nat) (p : Int × Int) : ∀ s, bkI v (s + t) p = bkI v s (bkI v t p)
  | 0 => by rw [Nat.zero_add]; rfl
  | s + 1 => by rw [Nat.succ_add, bkI, bkI, bkI_add v t p s]
def eP (v : Mv) (j : Nat) : Int × Int := (ps (vA v) (va v) j, ps (vB v) (va v) j)
def lEb (v : Mv) (p : Int × Int) : Bool := (List.range (vn v)).any (fun j => decide (eP v j = p))
theorem lEb_iff {v : Mv} {p : Int × Int} : lEb v p = true ↔ ∃ j, j < vn v ∧ eP v j = p := by
  simp [lEb]
def bbW (v : Mv) (m j : Nat) : Nat := srch (fun s => lEb v (bkI v s (eP v j))) 1 m
theorem bkP_pV {v : Mv} (hv : Vd v) {p : Int × Int} (h : pV v p.1 p.2) : pV v (bkP v p).1 (bkP v p).2 := (go_pV hv hv.2.2.2.2.2.1 hv.2.2.2.2.1 h).1
theorem bkI_pV {v : Mv} (hv : Vd v) {p : Int × Int} (h : pV v p.1 p.2) : ∀ s, pV v (bkI v s p).1 (bkI v s p).2
  | 0 => h
  | s + 1 => bkP_pV hv (bkI_pV hv h s)
theorem bkP_inj {v : Mv} (hv : Vd v) {p q : Int × Int} (hp : pV v p.1 p.2) (hq : pV v q.1 q.2) (e : bkP v p = bkP v q) : p = q := by
  have h1 := go_inv hv hv.2.2.2.2.2.1 hv.2.2.2.2.1 hp.2
  have h2 := go_inv hv hv.2.2.2.2.2.1 hv.2.2.2.2.1 hq.2
  have e1 : gA v (vu v) (va v) p.1 p.2 = gA v (vu v) (va v) q.1 q.2 := congrArg Prod.fst e
  have e2 : gB v (vu v) (va v) p.1 p.2 = gB v (vu v) (va v) q.1 q.2 := congrArg Prod.snd e
  rw [e1, e2] at h1
  exact Prod.ext (h1.1.symm.trans h2.1) (h1.2.symm.trans h2.2)
theorem bkI_inj {v : Mv} (hv : Vd v) {p q : Int × Int} (hp : pV v p.1 p.2) (hq : pV v q.1 q.2) : ∀ s, bkI v s p = bkI v s q → p = q
  | 0, e => e
  | s + 1, e => bkI_inj hv hp hq s (bkP_inj hv (bkI_pV hv hp s) (bkI_pV hv hq s) e)
theorem eP_pV {v : Mv} (hv : Vd v) {j : Nat} (hj : j < vn v) : pV v (eP v j).1 (eP v j).2 := by
  have hf := hv.2.2.2.2.1
  refine ⟨(hv.psA hf (j := j) (by omega)).2.2, ?_⟩
  unfold onL eP
  dsimp only
  rw [← vL_ps]
  have m1 := hv.mono hf (i := 0) (j := j) (by omega) (by omega)
  have m2 := hv.mono hf (i := j) (j := vn v) (by omega) (by omega)
  rw [hv.tot hf] at m2
  simp only [ps] at m1
  omega
theorem eP_inj {v : Mv} (hv : Vd v) {i j : Nat} (hi : i < vn v) (hj : j < vn v) (e : eP v i = eP v j) : i = j := by
  have hf := hv.2.2.2.2.1
  have e1 : ps (vL v) (va v) i = ps (vL v) (va v) j := by
    rw [vL_ps, vL_ps]
    have a1 : ps (vA v) (va v) i = ps (vA v) (va v) j := congrArg Prod.fst e
    have a2 : ps (vB v) (va v) i = ps (vB v) (va v) j := congrArg Prod.snd e
    rw [a1, a2]
  rcases Nat.lt_trichotomy i j with z | z | z
  · have := hv.mono hf (i := i) (j := j) (by omega) (by omega)
    omega
  · exact z
  · have := hv.mono hf (i := j) (j := i) (by omega) (by omega)
    omega
theorem bkI_bd {v : Mv} (hv : Vd v) {j : Nat} (hj : j < vn v) : ∀ s : Nat, (-131072 - 262144 * (s : Int) ≤ (bkI v s (eP v j)).1 ∧ (bkI v s (eP v j)).1 ≤ 131072 + 262144 * (s : Int)) ∧ (-131072 - 262144 * (s : Int) ≤ (bkI v s (eP v j)).2 ∧ (bkI v s (eP v j)).2 ≤ 131072 + 262144 * (s : Int))
  | 0 => by
    have h := hv.psA hv.2.2.2.2.1 (j := j) (by omega)
    show (_ ≤ ps (vA v) (va v) j ∧ ps (vA v) (va v) j ≤ _) ∧ (_ ≤ ps (vB v) (va v) j ∧ ps (vB v) (va v) j ≤ _)
    omega
  | s + 1 => by
    have h := bkI_bd hv hj s
    have h2 := (go_pV hv hv.2.2.2.2.2.1 hv.2.2.2.2.1 (bkI_pV hv (eP_pV hv hj) s)).2
    show (_ ≤ gA v (vu v) (va v) (bkI v s (eP v j)).1 (bkI v s (eP v j)).2 ∧ gA v (vu v) (va v) (bkI v s (eP v j)).1 (bkI v s (eP v j)).2 ≤ _) ∧ (_ ≤ gB v (vu v) (va v) (bkI v s (eP v j)).1 (bkI v s (eP v j)).2 ∧ gB v (vu v) (va v) (bkI v s (eP v j)).1 (bkI v s (eP v j)).2 ≤ _)
    omega
theorem bkI_ok {v : Mv} (hv : Vd v) {j : Nat} (hj : j < vn v) {s : Nat} (hs : s ≤ 10) : ptOk v (bkI v s (eP v j)).1 (bkI v s (eP v j)).2 := by
  have h := bkI_bd hv hj s
  refine ⟨?_, bkI_pV hv (eP_pV hv hj) s⟩
  unfold pB
  omega
theorem bb_spec {v : Mv} {m j : Nat} (hm : 1 ≤ m) : 1 ≤ bbW v m j ∧ bbW v m j ≤ m ∧ (bbW v m j < m → lEb v (bkI v (bbW v m j) (eP v j)) = true) ∧ ∀ k, 1 ≤ k → k < bbW v m j → ¬ lEb v (bkI v k (eP v j)) = true := srch_spec (fun s => lEb v (bkI v s (eP v j))) (n := m) 1 hm
theorem bb_0 {v : Mv} (hv : Vd v) {m : Nat} (hm : 1 ≤ m) : bbW v m 0 = 1 := by
  have hn := hv.1
  have hf := hv.2.2.2.2.2.1
  have hh := hv.2.2.2.2.1
  obtain ⟨b1, b2, b3, b4⟩ := bb_spec (v := v) (m := m) (j := 0) hm
  rcases Nat.lt_or_ge 1 (bbW v m 0) with z | z
  · exfalso
    refine b4 1 (Nat.le_refl _) z (lEb_iff.mpr ?_)
    have hs : sidx v (vu v) (val (vr v) 0 0) = 0 := by
      refine sidx_eq hv hf (by omega) ?_ ?_
      · rw [val_0]; exact Int.le_refl 0
      · have := hv.pos hf 0 (by omega)
        rw [val_0]
        show (0 : Int) < 0 + vL v (vu v 0)
        omega
    refine ⟨posI (va v) (vu v 0) (vn v), (posI_spec hh (hf.1 0 (by omega))).1, ?_⟩
    show eP v _ = (gA v (vu v) (va v) 0 0, gB v (vu v) (va v) 0 0)
    unfold gA gB shA eP
    rw [hs]
    simp [ps]
  · omega
theorem bb_all {v : Mv} (hv : Vd v) {m : Nat} (hm : 1 ≤ m) : ∀ i j, j < vn v → i < m → ∃ j2 s, j2 < vn v ∧ s < bbW v m j2 ∧ bkI v s (eP v j2) = bkI v i (eP v j) := by
  intro i
  induction i using Nat.strongRecOn with
  | _ i ih =>
    intro j hj hi
    obtain ⟨b1, b2, b3, b4⟩ := bb_spec (v := v) (m := m) (j := j) hm
    rcases Nat.lt_or_ge i (bbW v m j) with z | z
    · exact ⟨j, i, hj, z, rfl⟩
    · obtain ⟨j3, h3, e3⟩ := lEb_iff.mp (b3 (by omega))
      obtain ⟨j2, s, q1, q2, q3⟩ := ih (i - bbW v m j) (by omega) j3 h3 (by omega)
      refine ⟨j2, s, q1, q2, ?_⟩
      rw [q3, e3, ← bkI_add]
      congr 1
      omega
theorem bb_one {v : Mv} (hv : Vd v) {m : Nat} (hm : 1 ≤ m) {i j s r : Nat} (hi : i < vn v) (hj : j < vn v) (hs : s < bbW v m j) (hr : r < bbW v m i) (e : bkI v s (eP v j) = bkI v r (eP v i)) : j = i ∧ s = r := by
  have key : ∀ {i j s r : Nat}, i < vn v → j < vn v → s ≤ r → r < bbW v m i → bkI v s (eP v j) = bkI v r (eP v i) → j = i ∧ s = r := by
    intro i j s r hi hj hsr hr e
    rw [show r = s + (r - s) by omega, bkI_add] at e
    have e2 := bkI_inj hv (eP_pV hv hj) (bkI_pV hv (eP_pV hv hi) _) s e
    rcases Nat.eq_zero_or_pos (r - s) with z | z
    · rw [z] at e2
      exact ⟨eP_inj hv hj hi e2, by omega⟩
    · exact absurd (lEb_iff.mpr ⟨j, hj, e2⟩) ((bb_spec (v := v) (m := m) (j := i) hm).2.2.2 (r - s) z (by omega))
  rcases Nat.le_total s r with z | z
  · exact key hi hj z hr e
  · obtain ⟨a, b⟩ := key hj hi z hs e.symm
    exact ⟨a.symm, b.symm⟩
theorem ct_inj2 {p q : Nat → Bool} {N M : Nat} (φ : Nat → Nat) (h : ∀ c, c < N → p c = true → φ c < M ∧ q (φ c) = true) (hi : ∀ c d, c < N → d < N → p c = true → p d = true → φ c = φ d → c = d) : fb_ct p N ≤ fb_ct q M := by
  obtain ⟨s, hs⟩ := Classical.axiomOfChoice (r := fun k i => k < fb_ct p N → (i < N ∧ p i = true ∧ fb_ct p i = k)) (fun k => by
    rcases Nat.lt_or_ge k (fb_ct p N) with z | z
    · obtain ⟨i, h1⟩ := fb_ct_kth z
      exact ⟨i, fun _ => h1⟩
    · exact ⟨0, fun w => by omega⟩)
  refine fb_holes (fb_ct q M) (fb_ct p N) (fun k => fb_ct q (φ (s k))) (fun k hk => ?_) (fun i j hij hj e => ?_)
  · obtain ⟨a1, a2, a3⟩ := hs k hk
    obtain ⟨b1, b2⟩ := h _ a1 a2
    have c1 := fb_ct_succ q (φ (s k))
    rw [if_pos b2] at c1
    have c2 := fb_ct_mono q (m := φ (s k) + 1) (n := M) (by omega)
    show fb_ct q (φ (s k)) < fb_ct q M
    omega
  · obtain ⟨a1, a2, a3⟩ := hs i (by omega)
    obtain ⟨d1, d2, d3⟩ := hs j hj
    have e2 := fb_ct_kth_one (h _ a1 a2).2 (h _ d1 d2).2 e
    have e3 := hi _ _ a1 d1 a2 d2 e2
    rw [e3] at a3
    omega
theorem ct_below (b : Nat) : ∀ N, fb_ct (fun k => decide (k < b)) N = if b < N then b else N
  | 0 => by simp [fb_ct]
  | N + 1 => by
    rw [fb_ct_succ, ct_below b N]
    by_cases z : N < b
    · rw [if_neg (by omega), if_pos (by simpa using z), if_neg (by omega)]
    · rw [decide_eq_false z, if_pos (show b < N + 1 by omega), if_neg (show ¬ false = true by decide)]
      split <;> omega
theorem ct_grid {b : Nat → Nat} : ∀ n, (∀ j, j < n → b j ≤ 10) → fb_ct (fun q => decide (q % 10 < b (q / 10))) (10 * n) = fb_sm b n
  | 0, _ => rfl
  | n + 1, h => by
    rw [show 10 * (n + 1) = 10 * n + 10 by omega, fb_ct_split, ct_grid n (fun j hj => h j (by omega)), fb_sm_succ]
    congr 1
    have e : fb_ct (fun k => decide ((10 * n + k) % 10 < b ((10 * n + k) / 10))) 10 = fb_ct (fun k => decide (k < b n)) 10 := fb_ct_cong (fun k hk => by
      rw [show (10 * n + k) % 10 = k by omega, show (10 * n + k) / 10 = n by omega])
    rw [e, ct_below]
    have := h n (by omega)
    split <;> omega
/-- what the reference's cuts are at the end -/
def WCu (v : Mv) (m c : Nat) : Prop := ∃ C : Nat → Int × Int, (∀ k, k < c → C k ≠ (0, 0) ∧ ∃ j i, 0 < j ∧ j < vn v ∧ i < m ∧ C k = bkI v i (eP v j)) ∧ (∀ j i, 0 < j → j < vn v → i < m → bkI v i (eP v j) = (0, 0) ∨ ∃ k, k < c ∧ C k = bkI v i (eP v j)) ∧ ∀ i k, i < k → k < c → C i ≠ C k
theorem words_eq {v : Mv} (hv : Vd v) {m c : Nat} (hm : 1 ≤ m ∧ m ≤ 10) (h : WCu v m c) : c + 1 = fb_sm (bbW v m) (vn v) := by
  obtain ⟨C, h1, h2, h3⟩ := h
  have hn := hv.1
  have hb : ∀ j, bbW v m j ≤ 10 := fun j => by
    have := (bb_spec (v := v) (m := m) (j := j) hm.1).2.1
    omega
  rw [← ct_grid (vn v) (fun j _ => hb j)]
  have hall : fb_ct (fun _ => true) (c + 1) = c + 1 := fb_ct_all.mpr (fun _ _ => rfl)
  have e0 : eP v 0 = (0, 0) := rfl
  have hD : ∀ i k, i < k → k < c + 1 → (if i = c then (0, 0) else C i) ≠ (if k = c then ((0 : Int), (0 : Int)) else C k) := by
    intro i k hik hk
    rw [if_neg (by omega)]
    by_cases z : k = c
    · rw [if_pos z]
      exact (h1 i (by omega)).1
    · rw [if_neg z]
      exact h3 i k hik (by omega)
  apply Nat.le_antisymm
  · obtain ⟨φ, hφ⟩ := Classical.axiomOfChoice (r := fun k q => k < c + 1 → q < 10 * vn v ∧ q % 10 < bbW v m (q / 10) ∧ bkI v (q % 10) (eP v (q / 10)) = (if k = c then ((0 : Int), (0 : Int)) else C k)) (fun k => by
      by_cases hk : k < c + 1
      · by_cases z : k = c
        · refine ⟨0, fun _ => ⟨by omega, ?_, ?_⟩⟩
          · show 0 < bbW v m 0
            rw [bb_0 hv hm.1]
            omega
          · rw [if_pos z]
            rfl
        · obtain ⟨_, j, i, q1, q2, q3, q4⟩ := h1 k (by omega)
          obtain ⟨j2, s, r1, r2, r3⟩ := bb_all hv hm.1 i j q2 q3
          have hs := hb j2
          have a1 : (10 * j2 + s) % 10 = s := by omega
          have a2 : (10 * j2 + s) / 10 = j2 := by omega
          refine ⟨10 * j2 + s, fun _ => ⟨by omega, ?_, ?_⟩⟩
          · rw [a1, a2]; exact r2
          · rw [a1, a2, if_neg z, r3, q4]
      · exact ⟨0, fun w => absurd w hk⟩)
    have := ct_inj2 (p := fun _ => true) (q := fun q => decide (q % 10 < bbW v m (q / 10))) (N := c + 1) (M := 10 * vn v) φ (fun k hk _ => ⟨(hφ k hk).1, by simpa using (hφ k hk).2.1⟩) (fun i k hi hk _ _ e => by
      have a1 := (hφ i hi).2.2
      have a2 := (hφ k hk).2.2
      rw [e] at a1
      have a3 := a1.symm.trans a2
      rcases Nat.lt_trichotomy i k with z | z | z
      · exact absurd a3 (hD i k z hk)
      · exact z
      · exact absurd a3.symm (hD k i z hi))
    omega
  · obtain ⟨φ, hφ⟩ := Classical.axiomOfChoice (r := fun q k => q < 10 * vn v → q % 10 < bbW v m (q / 10) → k < c + 1 ∧ (if k = c then ((0 : Int), (0 : Int)) else C k) = bkI v (q % 10) (eP v (q / 10))) (fun q => by
      by_cases hq : q < 10 * vn v ∧ q % 10 < bbW v m (q / 10)
      · obtain ⟨hq1, hq2⟩ := hq
        have hbm := (bb_spec (v := v) (m := m) (j := q / 10) hm.1).2.1
        rcases Nat.eq_zero_or_pos (q / 10) with z | z
        · refine ⟨c, fun _ _ => ⟨by omega, ?_⟩⟩
          rw [z, bb_0 hv hm.1] at hq2
          rw [z, show q % 10 = 0 by omega, if_pos rfl]
          rfl
        · rcases h2 (q / 10) (q % 10) z (by omega) (by omega) with w | ⟨k, hk, w⟩
          · exact ⟨c, fun _ _ => ⟨by omega, by rw [if_pos rfl, w]⟩⟩
          · exact ⟨k, fun _ _ => ⟨by omega, by rw [if_neg (by omega), w]⟩⟩
      · exact ⟨0, fun a b => absurd ⟨a, b⟩ hq⟩)
    have := ct_inj2 (p := fun q => decide (q % 10 < bbW v m (q / 10))) (q := fun _ => true) (N := 10 * vn v) (M := c + 1) φ (fun q hq hp => ⟨(hφ q hq (by simpa using hp)).1, rfl⟩) (fun a d ha hd hpa hpd e => by
      have ha2 : a % 10 < bbW v m (a / 10) := by simpa using hpa
      have hd2 : d % 10 < bbW v m (d / 10) := by simpa using hpd
      have a1 := (hφ a ha ha2).2
      have a2 := (hφ d hd hd2).2
      rw [e] at a1
      obtain ⟨r1, r2⟩ := bb_one hv hm.1 (i := d / 10) (j := a / 10) (by omega) (by omega) ha2 hd2 (a1.symm.trans a2)
      omega)
    omega
