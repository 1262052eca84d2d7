/-! ONE STATE, seen in both objects: root and sheet; the mover; the point; the rounds -/
abbrev sG1 : Type := Int × Nat × (Nat → Int) × (Nat → Int) × (Nat → Nat)
abbrev sG2 : Type := Mv × Int × Int
abbrev sG3 : Type := Int × Int × Int
abbrev sG4 : Type := Nat × (Nat → Int) × (Nat → Int) × (Nat → Int)
def J1C (X : Mm) (h : sG1) : Prop := X 0 0 = h.1 ∧ X 1 0 = (h.2.1 : Int) ∧ (∀ k, k < 8 → X 2 k = h.2.2.1 k ∧ X 3 k = h.2.2.2.1 k) ∧ ∀ j, j < h.2.1 → X 4 j = (h.2.2.2.2 j : Int)
def J2C (X : Mm) (h : sG2) : Prop := X 5 0 = (vn h.1 : Int) ∧ (vn h.1 ≠ 0 → MvC X 5 h.1 ∧ Wys X h.1 ∧ X 5 2 = h.2.1 ∧ X 5 3 = h.2.2)
def J3C (X : Mm) (h : sG3) : Prop := X 29 0 = h.1 ∧ (h.1 = 1 → X 29 1 = h.2.1 ∧ X 29 2 = h.2.2)
def J4C (X : Mm) (h : sG4) : Prop := X 31 0 = (h.1 : Int) ∧ ∀ q, q < h.1 → X 32 q = h.2.1 q ∧ X 33 q = h.2.2.1 q ∧ X 34 q = h.2.2.2 q
def J1M (X : Mm) (h : sG1) : Prop := X 44 0 = h.1 ∧ X 44 3 = (h.2.1 : Int) ∧ (∀ k, k < 8 → X 45 k = h.2.2.1 k ∧ X 46 k = h.2.2.2.1 k) ∧ ∀ j, j < h.2.1 → X 47 j = (h.2.2.2.2 j : Int)
def J2M (X : Mm) (h : sG2) : Prop := X 44 5 = (vn h.1 : Int) ∧ (vn h.1 ≠ 0 → MvM X h.1 ∧ X 44 11 = h.2.1 ∧ X 44 12 = h.2.2)
def J3M (X : Mm) (h : sG3) : Prop := X 44 13 = h.1 ∧ (h.1 = 1 → X 44 14 = h.2.1 ∧ X 44 15 = h.2.2)
def J4M (X : Mm) (h : sG4) : Prop := X 44 25 = (h.1 : Int) ∧ ∀ q, q < h.1 → X 58 q = h.2.1 q ∧ X 59 q = h.2.2.1 q ∧ X 60 q = h.2.2.2 q
def Pu1 (h : sG1) : Prop := isRoot h.1 ∧ (h.2.1 = 0 ∨ (2 ≤ h.2.1 ∧ h.2.1 ≤ 8 ∧ Perm h.2.2.2.2 h.2.1)) ∧ ∀ k, k < 8 → (-16384 ≤ h.2.2.1 k ∧ h.2.2.1 k ≤ 16384) ∧ (-16384 ≤ h.2.2.2.1 k ∧ h.2.2.2.1 k ≤ 16384) ∧ (h.1 = 0 → h.2.2.2.1 k = 0) ∧ (¬ (h.2.2.1 k = 0 ∧ h.2.2.2.1 k = 0) → 0 < val h.1 (h.2.2.1 k) (h.2.2.2.1 k))
def Pu2 (r : Int) (v : Mv) : Prop := vn v ≠ 0 → Vd v ∧ vr v = r
def Pu3 (v : Mv) (h : sG3) : Prop := h.1 = 0 ∨ (h.1 = 1 ∧ vn v ≠ 0 ∧ ptOk v h.2.1 h.2.2)
def JC (X : Mm) (h1 : sG1) (h2 : sG2) (h3 : sG3) (h4 : sG4) : Prop := J1C X h1 ∧ J2C X h2 ∧ J3C X h3 ∧ J4C X h4
def JM (X : Mm) (h1 : sG1) (h2 : sG2) (h3 : sG3) (h4 : sG4) : Prop := J1M X h1 ∧ J2M X h2 ∧ J3M X h3 ∧ J4M X h4
def JP (h1 : sG1) (h2 : sG2) (h3 : sG3) (h4 : sG4) : Prop := Pu1 h1 ∧ Pu2 h1.1 h2.1 ∧ Pu3 h2.1 h3 ∧ h4.1 ≤ 8
def JJ (X : Mm) (h1 : sG1) (h2 : sG2) (h3 : sG3) (h4 : sG4) : Prop := JC X h1 h2 h3 h4 ∧ JM X h1 h2 h3 h4 ∧ JP h1 h2 h3 h4
theorem J1C.fr {X X2 : Mm} {h : sG1} (hj : J1C X h) (e : ∀ d j, d ≤ 4 → X2 d j = X d j) : J1C X2 h := by
  obtain ⟨a, b, c, d⟩ := hj
  refine ⟨(e 0 0 (by omega)).trans a, (e 1 0 (by omega)).trans b, fun k hk => ?_, fun j hj => (e 4 j (by omega)).trans (d j hj)⟩
  rw [e 2 k (by omega), e 3 k (by omega)]
  exact c k hk
theorem J2C.fr {X X2 : Mm} {h : sG2} (hj : J2C X h) (e : ∀ d j, ((5 ≤ d ∧ d ≤ 10) ∨ (17 ≤ d ∧ d ≤ 28)) → X2 d j = X d j) : J2C X2 h := by
  obtain ⟨a, b⟩ := hj
  refine ⟨(e 5 0 (by omega)).trans a, fun hn => ?_⟩
  obtain ⟨b1, b2, b3, b4⟩ := b hn
  exact ⟨b1.fr (fun d k q1 q2 => e d k (by omega)), b2.fr (fun d k q1 q2 => e d k (by omega)), (e 5 2 (by omega)).trans b3, (e 5 3 (by omega)).trans b4⟩
theorem J3C.fr {X X2 : Mm} {h : sG3} (hj : J3C X h) (e : ∀ j, X2 29 j = X 29 j) : J3C X2 h := by
  obtain ⟨a, b⟩ := hj
  exact ⟨(e 0).trans a, fun z => ⟨(e 1).trans (b z).1, (e 2).trans (b z).2⟩⟩
theorem J4C.fr {X X2 : Mm} {h : sG4} (hj : J4C X h) (e : ∀ d j, (31 ≤ d ∧ d ≤ 34) → X2 d j = X d j) : J4C X2 h := by
  obtain ⟨a, b⟩ := hj
  exact ⟨(e 31 0 (by omega)).trans a, fun q hq => ⟨(e 32 q (by omega)).trans (b q hq).1, (e 33 q (by omega)).trans (b q hq).2.1, (e 34 q (by omega)).trans (b q hq).2.2⟩⟩
theorem JC.fr {X X2 : Mm} {h1 : sG1} {h2 : sG2} {h3 : sG3} {h4 : sG4} (hj : JC X h1 h2 h3 h4) (e : ∀ d j, (d ≤ 10 ∨ (17 ≤ d ∧ d ≤ 29) ∨ (31 ≤ d ∧ d ≤ 34)) → X2 d j = X d j) : JC X2 h1 h2 h3 h4 :=
  ⟨hj.1.fr (fun d j q => e d j (by omega)), hj.2.1.fr (fun d j q => e d j (by omega)), hj.2.2.1.fr (fun j => e 29 j (by omega)), hj.2.2.2.fr (fun d j q => e d j (by omega))⟩
theorem J1M.fr {X X2 : Mm} {h : sG1} (hj : J1M X h) (e0 : X2 44 0 = X 44 0) (e3 : X2 44 3 = X 44 3) (e : ∀ d j, (45 ≤ d ∧ d ≤ 47) → X2 d j = X d j) : J1M X2 h := by
  obtain ⟨a, b, c, d⟩ := hj
  refine ⟨e0.trans a, e3.trans b, fun k hk => ?_, fun j hj => (e 47 j (by omega)).trans (d j hj)⟩
  rw [e 45 k (by omega), e 46 k (by omega)]
  exact c k hk
theorem J2M.fr {X X2 : Mm} {h : sG2} (hj : J2M X h) (e0 : ∀ j, (j = 0 ∨ j = 5 ∨ j = 11 ∨ j = 12) → X2 44 j = X 44 j) (e : ∀ d j, (48 ≤ d ∧ d ≤ 52) → X2 d j = X d j) : J2M X2 h := by
  obtain ⟨a, b⟩ := hj
  refine ⟨(e0 5 (by omega)).trans a, fun hn => ?_⟩
  obtain ⟨b1, b2, b3⟩ := b hn
  exact ⟨b1.fr (e0 0 (by omega)) (e0 5 (by omega)) (fun d k q1 q2 => e d k (by omega)), (e0 11 (by omega)).trans b2, (e0 12 (by omega)).trans b3⟩
theorem J3M.fr {X X2 : Mm} {h : sG3} (hj : J3M X h) (e : ∀ j, (j = 13 ∨ j = 14 ∨ j = 15) → X2 44 j = X 44 j) : J3M X2 h := by
  obtain ⟨a, b⟩ := hj
  exact ⟨(e 13 (by omega)).trans a, fun z => ⟨(e 14 (by omega)).trans (b z).1, (e 15 (by omega)).trans (b z).2⟩⟩
theorem J4M.fr {X X2 : Mm} {h : sG4} (hj : J4M X h) (e0 : X2 44 25 = X 44 25) (e : ∀ d j, (58 ≤ d ∧ d ≤ 60) → X2 d j = X d j) : J4M X2 h := by
  obtain ⟨a, b⟩ := hj
  exact ⟨e0.trans a, fun q hq => ⟨(e 58 q (by omega)).trans (b q hq).1, (e 59 q (by omega)).trans (b q hq).2.1, (e 60 q (by omega)).trans (b q hq).2.2⟩⟩
theorem JM.fr {X X2 : Mm} {h1 : sG1} {h2 : sG2} {h3 : sG3} {h4 : sG4} (hj : JM X h1 h2 h3 h4) (e0 : ∀ j, (j = 0 ∨ j = 3 ∨ j = 5 ∨ (11 ≤ j ∧ j ≤ 15) ∨ j = 25) → X2 44 j = X 44 j) (e : ∀ d j, ((45 ≤ d ∧ d ≤ 52) ∨ (58 ≤ d ∧ d ≤ 60)) → X2 d j = X d j) : JM X2 h1 h2 h3 h4 :=
  ⟨hj.1.fr (e0 0 (by omega)) (e0 3 (by omega)) (fun d j q => e d j (by omega)), hj.2.1.fr (fun j q => e0 j (by omega)) (fun d j q => e d j (by omega)), hj.2.2.1.fr (fun j q => e0 j (by omega)), hj.2.2.2.fr (e0 25 (by omega)) (fun d j q => e d j (by omega))⟩
theorem Pu2.n8 {r : Int} {v : Mv} (h : Pu2 r v) : vn v ≤ 8 := by
  rcases Nat.eq_zero_or_pos (vn v) with z | z
  · omega
  · exact (h (by omega)).1.2.1
theorem J2C.any {X : Mm} {h : sG2} (hj : J2C X h) (h0 : vn h.1 = 0) : ∃ w, vn w = 0 ∧ MvC X 5 w := by
  have a := hj.1
  rw [h0] at a
  exact ⟨(0, X 5 1, fun _ => 0, fun _ => 0, fun _ => 0, fun _ => 0, fun _ _ => 0), rfl, a, rfl, fun k hk => absurd hk (Nat.not_lt_zero _), fun i j hi => absurd hi (Nat.not_lt_zero _)⟩
theorem J2M.any {X : Mm} {h : sG2} (hj : J2M X h) (h0 : vn h.1 = 0) : ∃ w, vn w = 0 ∧ MvM X w := by
  have a := hj.1
  rw [h0] at a
  exact ⟨(0, X 44 0, fun _ => 0, fun _ => 0, fun _ => 0, fun _ => 0, fun _ _ => 0), rfl, a, rfl, fun k hk => absurd hk (Nat.not_lt_zero _), fun i j hi => absurd hi (Nat.not_lt_zero _)⟩
/-- behind the class's call: the reference's call answers the same, and both hold one state again -/
def Aft (l : Launch) (g : Geo) (M : Me) (as : List AV) (w : AV) (X1 : Mm) : Prop := ∀ K : AV → Mm → Prop, (∀ X2 i1 i2 i3 i4, JJ X2 i1 i2 i3 i4 → K w X2) → Ct l g M as X1 K
def i32r (a : Int) : Prop := -2147483648 ≤ a ∧ a < 2147483648
section
variable {l : Launch} {g : Geo} {X : Mm} {K0 : AV → Mm → Prop} {h1 : sG1} {h2 : sG2} {h3 : sG3} {h4 : sG4}
/-! reads -/
theorem pr_of (hJ : JJ X h1 h2 h3 h4) {w : Int} (hw : i32r w) (hk : ∀ (r : Int) (X1 : Mm), Aft l g mX8_of [vR 44, vI w] (vI r) X1 → K0 (vI r) X1) : Ct l g mX7_of [vR 0, vI w] X K0 := by
  obtain ⟨⟨c1, c2, c3, c4⟩, ⟨m1, m2, m3, m4⟩, p1, p2, p3, p4⟩ := id hJ
  have n8 := p2.n8
  refine ct_X7_of (n := vn h2.1) (f := va h2.1) (h := vu h2.1) hw c2.1 n8 (fun j hj => ⟨((c2.2 (by omega)).1.2.2.1 j hj).2.2.1, ?_⟩) (fun j hj => ⟨((c2.2 (by omega)).1.2.2.1 j hj).2.2.2, ?_⟩) (hk _ X (fun K hK => ct_X8_of (n := vn h2.1) (f := va h2.1) (h := vu h2.1) hw m2.1 n8 (fun j hj => ⟨((m2.2 (by omega)).1.2.2.1 j hj).2.2.1, ?_⟩) (fun j hj => ⟨((m2.2 (by omega)).1.2.2.1 j hj).2.2.2, ?_⟩) (kE (hK X _ _ _ _ hJ) ?_)))
  · have := (p2 (by omega)).1.2.2.2.2.1.1 j hj; omega
  · have := (p2 (by omega)).1.2.2.2.2.2.1.1 j hj; omega
  · have := (p2 (by omega)).1.2.2.2.2.1.1 j hj; omega
  · have := (p2 (by omega)).1.2.2.2.2.2.1.1 j hj; omega
  · unfold ofR
    by_cases z : vn h2.1 = 0
    · rw [if_pos z, if_pos z]
    · have a := (c2.2 z).2.2
      have b := (m2.2 z).2
      rw [a.1, a.2, b.1, b.2]
theorem pr_spans (hJ : JJ X h1 h2 h3 h4) {k w : Int} (hq : i32r k) (hw : i32r w) (hk : ∀ (r : Int) (X1 : Mm), Aft l g mX8_spans [vR 44, vI k, vI w] (vJ r) X1 → K0 (vJ r) X1) : Ct l g mX7_spans [vR 0, vI k, vI w] X K0 := by
  obtain ⟨⟨c1, c2, c3, c4⟩, ⟨m1, m2, m3, m4⟩, p1, p2, p3, p4⟩ := id hJ
  have n8 := p2.n8
  have xA : ∀ k, k < vn h2.1 → X 6 k = vA h2.1 k ∧ X 7 k = vB h2.1 k := fun k hk => ⟨((c2.2 (by omega)).1.2.2.1 k hk).1, ((c2.2 (by omega)).1.2.2.1 k hk).2.1⟩
  have xM : ∀ k, k < vn h2.1 → X 48 k = vA h2.1 k ∧ X 49 k = vB h2.1 k := fun k hk => ⟨((m2.2 (by omega)).1.2.2.1 k hk).1, ((m2.2 (by omega)).1.2.2.1 k hk).2.1⟩
  refine ct_X7_spans (n := vn h2.1) hq hw c2.1 n8 (fun k hk => ?_) (fun hn => ?_) (hk _ X (fun K hK => ct_X8_spans (n := vn h2.1) hq hw m2.1 n8 (kEJ (hK X _ _ _ _ hJ) ?_)))
  · have h5 := (p2 (by omega)).1.2.2.2.1 k hk
    rw [(xA k hk).1, (xA k hk).2]
    exact ⟨h5.1, h5.2.1⟩
  · have hv := (p2 hn).1
    have hw2 := (c2.2 hn).2.1.1.2.2.2 (vn h2.1) (Nat.le_refl _)
    have e1 : X 19 (vn h2.1) = ps (vA h2.1) (va h2.1) (vn h2.1) := hw2.1
    have e2 : X 20 (vn h2.1) = ps (vB h2.1) (va h2.1) (vn h2.1) := hw2.2
    rw [e1, e2, ps_perm hv.2.2.2.2.1, ps_perm hv.2.2.2.2.1]
    exact ⟨ps_cong (fun k hk => (xA k hk).1.symm), ps_cong (fun k hk => (xA k hk).2.symm)⟩
  · unfold spR
    by_cases z : vn h2.1 = 0 ∨ k < 0 ∨ (vn h2.1 : Int) < k ∨ ¬ (w = 0 ∨ w = 1)
    · rw [if_pos z, if_pos z]
    · rw [if_neg z, if_neg z]
      by_cases z2 : k = vn h2.1
      · rw [if_pos z2, if_pos z2]
        refine ps_cong (fun q hq => ?_)
        show (if w = 0 then X 6 q else X 7 q) = if w = 0 then X 48 q else X 49 q
        rw [(xA q hq).1, (xA q hq).2, (xM q hq).1, (xM q hq).2]
      · rw [if_neg z2, if_neg z2]
        have hq : k.toNat < vn h2.1 := by omega
        rw [(xA _ hq).1, (xA _ hq).2, (xM _ hq).1, (xM _ hq).2]
theorem pr_order (hJ : JJ X h1 h2 h3 h4) {w j : Int} (hw : i32r w) (hj : i32r j) (hk : ∀ (r : Int) (X1 : Mm), Aft l g mX8_order [vR 44, vI w, vI j] (vI r) X1 → K0 (vI r) X1) : Ct l g mX7_order [vR 0, vI w, vI j] X K0 := by
  obtain ⟨⟨c1, c2, c3, c4⟩, ⟨m1, m2, m3, m4⟩, p1, p2, p3, p4⟩ := id hJ
  have n8 := p2.n8
  refine ct_X7_order (n := vn h2.1) hj hw c2.1 n8 (hk _ X (fun K hK => ct_X8_order (n := vn h2.1) hj hw m2.1 n8 (kE (hK X _ _ _ _ hJ) ?_)))
  unfold orR
  by_cases z : j < 0 ∨ (vn h2.1 : Int) ≤ j ∨ ¬ (w = 0 ∨ w = 1)
  · rw [if_pos z, if_pos z]
  · rw [if_neg z, if_neg z]
    have hq : j.toNat < vn h2.1 := by omega
    have a := (c2.2 (by omega)).1.2.2.1 _ hq
    have b := (m2.2 (by omega)).1.2.2.1 _ hq
    have a1 : X 8 j.toNat = _ := a.2.2.1
    have a2 : X 9 j.toNat = _ := a.2.2.2
    rw [a1, a2, b.2.2.1, b.2.2.2]
theorem pr_where (hJ : JJ X h1 h2 h3 h4) {w : Int} (hw : i32r w) (hk : ∀ (r : Int) (X1 : Mm), Aft l g mX8_where [vR 44, vI w] (vJ r) X1 → K0 (vJ r) X1) : Ct l g mX7_where [vR 0, vI w] X K0 := by
  obtain ⟨⟨c1, c2, c3, c4⟩, ⟨m1, m2, m3, m4⟩, p1, p2, p3, p4⟩ := id hJ
  have ht : h3.1 = 0 ∨ h3.1 = 1 := p3.elim Or.inl (fun z => Or.inr z.1)
  refine ct_X7_where (by rw [c3.1]; exact ht) hw (hk _ X (fun K hK => ct_X8_where (by rw [m3.1]; exact ht) hw (kEJ (hK X _ _ _ _ hJ) ?_)))
  unfold whR
  rw [c3.1, m3.1]
  by_cases z : h3.1 = 0 ∨ ¬ (w = 0 ∨ w = 1)
  · rw [if_pos z, if_pos z]
  · rw [if_neg z, if_neg z]
    have a := c3.2 (by omega)
    have b := m3.2 (by omega)
    rw [a.1, a.2, b.1, b.2]
theorem pr_table (hJ : JJ X h1 h2 h3 h4) {i j : Int} (hi : i32r i) (hj : i32r j) (hk : ∀ (r : Int) (X1 : Mm), Aft l g mX8_table [vR 44, vI i, vI j] (vJ r) X1 → K0 (vJ r) X1) : Ct l g mX7_table [vR 0, vI i, vI j] X K0 := by
  obtain ⟨⟨c1, c2, c3, c4⟩, ⟨m1, m2, m3, m4⟩, p1, p2, p3, p4⟩ := id hJ
  have n8 := p2.n8
  refine ct_X7_table (n := vn h2.1) hi hj c2.1 n8 (hk _ X (fun K hK => ct_X8_table (n := vn h2.1) hi hj m2.1 n8 (kEJ (hK X _ _ _ _ hJ) ?_)))
  unfold tbR
  by_cases z : 0 ≤ i ∧ i < (vn h2.1 : Int) ∧ 0 ≤ j ∧ j < (vn h2.1 : Int)
  · rw [if_pos z, if_pos z]
    have a : X 10 (8 * i.toNat + j.toNat) = _ := (c2.2 (by omega)).1.2.2.2 i.toNat j.toNat (by omega) (by omega)
    have b : X 52 (8 * i.toNat + j.toNat) = _ := (m2.2 (by omega)).1.2.2.2 i.toNat j.toNat (by omega) (by omega)
    rw [a, b]
  · rw [if_neg z, if_neg z]
theorem pr_round (hJ : JJ X h1 h2 h3 h4) {k w : Int} (hq : i32r k) (hw : i32r w) (hk : ∀ (r : Int) (X1 : Mm), Aft l g mX8_round [vR 44, vI k, vI w] (vI r) X1 → K0 (vI r) X1) : Ct l g mX7_round [vR 0, vI k, vI w] X K0 := by
  obtain ⟨⟨c1, c2, c3, c4⟩, ⟨m1, m2, m3, m4⟩, p1, p2, p3, p4⟩ := id hJ
  refine ct_X7_round (n := h4.1) hq hw c4.1 p4 (hk _ X (fun K hK => ct_X8_round (n := h4.1) hq hw m4.1 (by omega) (kE (hK X _ _ _ _ hJ) ?_)))
  unfold rdR
  by_cases z : k < 0 ∨ (h4.1 : Int) ≤ k
  · rw [if_pos z, if_pos z]
  · rw [if_neg z, if_neg z]
    have a := c4.2 k.toNat (by omega)
    have b := m4.2 k.toNat (by omega)
    rw [a.1, a.2.1, a.2.2, b.1, b.2.1, b.2.2]
/-! the sheet -/
theorem pr_root (hJ : JJ X h1 h2 h3 h4) {r : Int} (hr : i32r r) (hk : ∀ (w : Int) (X1 : Mm), Aft l g mX8_root [vR 44, vI r] (vI w) X1 → K0 (vI w) X1) : Ct l g mX7_root [vR 0, vI r] X K0 := by
  obtain ⟨⟨c1, c2, c3, c4⟩, ⟨m1, m2, m3, m4⟩, p1, p2, p3, p4⟩ := id hJ
  refine ct_X7_root hr (fun q => hk 0 X (fun K hK => ct_X8_root hr (fun _ => hK X _ _ _ _ hJ) (fun z => absurd z q))) (fun q X1 e1 => hk 1 X1 (fun K hK => ct_X8_root hr (fun z => absurd q z) (fun _ X2 e2 => ?_)))
  refine hK X2 (r, 0, fun _ => 0, fun _ => 0, fun _ => 0) ((0, 0, fun _ => 0, fun _ => 0, fun _ => 0, fun _ => 0, fun _ _ => 0), 0, 0) (0, 0, 0) h4 ⟨⟨⟨?_, ?_, fun k hk => ⟨?_, ?_⟩, fun j hj => absurd hj (Nat.not_lt_zero _)⟩, ⟨?_, fun z => absurd rfl z⟩, ⟨?_, fun z => absurd z (by decide)⟩, c4.fr (fun d j hd => ?_)⟩, ⟨⟨?_, ?_, fun k hk => ⟨?_, ?_⟩, fun j hj => absurd hj (Nat.not_lt_zero _)⟩, ⟨?_, fun z => absurd rfl z⟩, ⟨?_, fun z => absurd z (by decide)⟩, m4.fr ?_ (fun d j hd => ?_)⟩, ⟨q, Or.inl rfl, fun k hk => ⟨⟨by show -16384 ≤ (0 : Int); omega, by show (0 : Int) ≤ 16384; omega⟩, ⟨by show -16384 ≤ (0 : Int); omega, by show (0 : Int) ≤ 16384; omega⟩, fun _ => rfl, fun z => absurd ⟨rfl, rfl⟩ z⟩⟩, fun z => absurd rfl z, Or.inl rfl, p4⟩
  all_goals rw [e2]
  all_goals first
    | (rw [e1]; simp; done)
    | (simp; done)
    | (rw [e1]; simp [vn]; done)
    | (simp [vn]; done)
    | (simp [hk]; done)
    | (rw [e1]; simp [hk]; done)
    | (rw [e1, if_neg (by omega), if_neg (by omega), if_neg (by omega), if_neg (by omega), if_neg (by omega), if_neg (by omega)]; done)
theorem pr_length (hJ : JJ X h1 h2 h3 h4) {k a b : Int} (hk0 : i32r k) (ha : i32r a) (hb : i32r b) (hk : ∀ (w : Int) (X1 : Mm), Aft l g mX8_length [vR 44, vI k, vI a, vI b] (vI w) X1 → K0 (vI w) X1) : Ct l g mX7_length [vR 0, vI k, vI a, vI b] X K0 := by
  obtain ⟨⟨c1, c2, c3, c4⟩, ⟨m1, m2, m3, m4⟩, p1, p2, p3, p4⟩ := id hJ
  refine ct_X7_length (by rw [c1.1]; exact p1.1) hk0 ha hb (fun q => hk 0 X (fun K hK => ct_X8_length (by rw [m1.1]; exact p1.1) hk0 ha hb (fun _ => hK X _ _ _ _ hJ) (fun z => absurd (by rw [m1.1] at z; rw [c1.1]; exact z) q))) (fun q => hk 1 _ (fun K hK => ct_X8_length (by show isRoot (X 44 0); rw [m1.1]; exact p1.1) hk0 ha hb (fun z => absurd (show lenOk (X 44 0) k a b by rw [m1.1]; rw [c1.1] at q; exact q) z) (fun _ => ?_)))
  rw [c1.1] at q
  obtain ⟨q1, q2, q3, q4, q5⟩ := q
  refine hK _ (h1.1, h1.2.1, fun j => if j = k.toNat then a else h1.2.2.1 j, fun j => if j = k.toNat then b else h1.2.2.2.1 j, h1.2.2.2.2) h2 h3 h4 ⟨⟨⟨c1.1, c1.2.1, fun j hj => ?_, c1.2.2.2⟩, c2.fr (fun d j hd => ?_), c3, c4⟩, ⟨⟨m1.1, m1.2.1, fun j hj => ?_, m1.2.2.2⟩, m2.fr (fun _ _ => rfl) (fun d j hd => ?_), m3, m4.fr rfl (fun d j hd => ?_)⟩, ⟨p1.1, p1.2.1, fun j hj => ?_⟩, p2, p3, p4⟩
  · have h5 := c1.2.2.1 j hj
    by_cases z : j = k.toNat
    · simp [st2, z]
    · simp [st2, z]
      exact h5
  · have y1 : d ≠ 2 := by omega
    have y2 : d ≠ 3 := by omega
    have y3 : d ≠ 45 := by omega
    have y4 : d ≠ 46 := by omega
    simp only [st2, if_neg y1, if_neg y2, if_neg y3, if_neg y4]
  · have h5 := m1.2.2.1 j hj
    by_cases z : j = k.toNat
    · simp [st2, z]
    · simp [st2, z]
      exact h5
  · have y1 : d ≠ 2 := by omega
    have y2 : d ≠ 3 := by omega
    have y3 : d ≠ 45 := by omega
    have y4 : d ≠ 46 := by omega
    simp only [st2, if_neg y1, if_neg y2, if_neg y3, if_neg y4]
  · have y1 : d ≠ 2 := by omega
    have y2 : d ≠ 3 := by omega
    have y3 : d ≠ 45 := by omega
    have y4 : d ≠ 46 := by omega
    simp only [st2, if_neg y1, if_neg y2, if_neg y3, if_neg y4]
  · by_cases z : j = k.toNat
    · simp only [if_pos z]
      exact ⟨q2, q3, fun e => by omega, fun _ => q5⟩
    · simp only [if_neg z]
      exact p1.2.2 j hj
theorem pr_below (hJ : JJ X h1 h2 h3 h4) {m o : Int} (hm : i32r m) (ho : i32r o) (hk : ∀ (w : Int) (X1 : Mm), Aft l g mX8_below [vR 44, vI m, vI o] (vI w) X1 → K0 (vI w) X1) : Ct l g mX7_below [vR 0, vI m, vI o] X K0 := by
  obtain ⟨⟨c1, c2, c3, c4⟩, ⟨m1, m2, m3, m4⟩, p1, p2, p3, p4⟩ := id hJ
  refine ct_X7_below hm ho (fun q => hk 0 X (fun K hK => ct_X8_below hm ho (fun _ => hK X _ _ _ _ hJ) (fun z => absurd z q))) (fun q X1 e1 => hk 1 X1 (fun K hK => ct_X8_below hm ho (fun z => absurd q z) (fun _ X2 e2 => ?_)))
  have q1 := q.1
  have hc : ∀ d j, d ≠ 4 → ¬ (d = 1 ∧ j = 0) → d ≠ 47 → ¬ (d = 44 ∧ j = 3) → X2 d j = X d j := fun d j y1 y2 y3 y4 => by
    rw [e2, if_neg (by omega), if_neg y4, e1, if_neg (by omega), if_neg y2]
  refine hK X2 (h1.1, m.toNat, h1.2.2.1, h1.2.2.2.1, nib o) h2 h3 h4 ⟨⟨⟨?_, ?_, fun j hj => ?_, fun j hj => ?_⟩, c2.fr (fun d j hd => hc d j (by omega) (by omega) (by omega) (by omega)), c3.fr (fun j => hc 29 j (by omega) (by omega) (by omega) (by omega)), c4.fr (fun d j hd => hc d j (by omega) (by omega) (by omega) (by omega))⟩, ⟨⟨?_, ?_, fun j hj => ?_, fun j hj => ?_⟩, m2.fr (fun j hj => hc 44 j (by omega) (by omega) (by omega) (by omega)) (fun d j hd => hc d j (by omega) (by omega) (by omega) (by omega)), m3.fr (fun j hj => hc 44 j (by omega) (by omega) (by omega) (by omega)), m4.fr (hc 44 25 (by omega) (by omega) (by omega) (by omega)) (fun d j hd => hc d j (by omega) (by omega) (by omega) (by omega))⟩, ⟨p1.1, Or.inr ⟨?_, ?_, sn_perm q.2⟩, p1.2.2⟩, p2, p3, p4⟩
  · rw [hc 0 0 (by omega) (by omega) (by omega) (by omega)]; exact c1.1
  · rw [e2, if_neg (by omega), if_neg (by omega), e1, if_neg (by omega), if_pos ⟨rfl, rfl⟩]
    show m = ((m.toNat : Nat) : Int)
    omega
  · rw [hc 2 j (by omega) (by omega) (by omega) (by omega), hc 3 j (by omega) (by omega) (by omega) (by omega)]
    exact c1.2.2.1 j hj
  · rw [e2, if_neg (by omega), if_neg (by omega), e1, if_pos ⟨rfl, hj⟩]
  · rw [hc 44 0 (by omega) (by omega) (by omega) (by omega)]; exact m1.1
  · rw [e2, if_neg (by omega), if_pos ⟨rfl, rfl⟩]
    show m = ((m.toNat : Nat) : Int)
    omega
  · rw [hc 45 j (by omega) (by omega) (by omega) (by omega), hc 46 j (by omega) (by omega) (by omega) (by omega)]
    exact m1.2.2.1 j hj
  · rw [e2, if_pos ⟨rfl, hj⟩]
  · show 2 ≤ m.toNat
    omega
  · show m.toNat ≤ 8
    omega
def layMv (h : sG1) : Mv := (h.2.1, h.1, h.2.2.1, h.2.2.2.1, fun k => k, h.2.2.2.2, fun i j => if i = j then 1 else 0)
theorem layMv_ok {h : sG1} (p1 : Pu1 h) (h0 : 0 < h.2.1) (hn : ∀ k, k < h.2.1 → ¬ (h.2.2.1 k = 0 ∧ h.2.2.2.1 k = 0)) : Vd (layMv h) := by
  obtain ⟨r, s, t⟩ := p1
  obtain ⟨s1, s2, s3⟩ := s.resolve_left (by omega)
  refine ⟨s1, s2, r, fun k hk => ?_, Perm.id _, s3, fun i j hi hj => ?_⟩
  · have hk2 : k < h.2.1 := hk
    obtain ⟨t1, t2, t3, t4⟩ := t k (by omega)
    exact ⟨t1, t2, t3, t4 (hn k hk2)⟩
  · show 0 ≤ (if i = j then (1 : Int) else 0) ∧ (if i = j then (1 : Int) else 0) ≤ 1099511627776
    split <;> omega
theorem pr_lay (hJ : JJ X h1 h2 h3 h4) (hk : ∀ (w : Int) (X1 : Mm), Aft l g mX8_lay [vR 44] (vI w) X1 → K0 (vI w) X1) : Ct l g mX7_lay [vR 0] X K0 := by
  obtain ⟨⟨c1, c2, c3, c4⟩, ⟨m1, m2, m3, m4⟩, p1, p2, p3, p4⟩ := id hJ
  have hm8 : h1.2.1 ≤ 8 := by
    rcases p1.2.1 with z | z
    · omega
    · exact z.2.1
  have bA : ∀ k, k < 8 → (-16384 ≤ h1.2.2.1 k ∧ h1.2.2.1 k ≤ 16384) ∧ (-16384 ≤ h1.2.2.2.1 k ∧ h1.2.2.2.1 k ≤ 16384) := fun k hk => ⟨(p1.2.2 k hk).1, (p1.2.2 k hk).2.1⟩
  have eC : ∀ k, k < 8 → X 2 k = h1.2.2.1 k ∧ X 3 k = h1.2.2.2.1 k := c1.2.2.1
  have eM : ∀ k, k < 8 → X 45 k = h1.2.2.1 k ∧ X 46 k = h1.2.2.2.1 k := m1.2.2.1
  refine ct_X7_lay (m := h1.2.1) (v := layMv h1) c1.2.1 hm8 (fun k hk => by rw [(eC k hk).1, (eC k hk).2]; exact bA k hk) ⟨rfl, c1.1.symm, fun k hk => ⟨(eC k (by omega)).1.symm, (eC k (by omega)).2.symm, rfl, (c1.2.2.2 k hk).symm⟩, fun i j hi hj => rfl⟩ (fun h0 hn => layMv_ok p1 h0 (fun k hk z => hn k hk (by rw [(eC k (by omega)).1, (eC k (by omega)).2]; exact z))) (fun h0 => hk (-1) X (fun K hK => ?_)) (fun h0 hz => hk (-2) X (fun K hK => ?_)) (fun h0 hn X1 d1 d2 d3 d4 d5 d6 => hk _ X1 (fun K hK => ?_))
  · exact ct_X8_lay (m := h1.2.1) m1.2.1 hm8 (fun k hk => by rw [(eM k hk).1]; exact (bA k hk).1) (fun k hk => by rw [(eM k hk).2]; exact (bA k hk).2) (fun _ => hK X _ _ _ _ hJ) (fun z => absurd z (by omega)) (fun z => absurd z (by omega))
  · obtain ⟨k, hk1, hk2, hk3⟩ := hz
    rw [(eC k (by omega)).1] at hk2
    rw [(eC k (by omega)).2] at hk3
    exact ct_X8_lay (m := h1.2.1) m1.2.1 hm8 (fun k hk => by rw [(eM k hk).1]; exact (bA k hk).1) (fun k hk => by rw [(eM k hk).2]; exact (bA k hk).2) (fun z => absurd z (by omega)) (fun _ _ => hK X _ _ _ _ hJ) (fun _ z => absurd (by rw [(eM k (by omega)).1, (eM k (by omega)).2]; exact ⟨hk2, hk3⟩) (z k hk1))
  · have f1 : ∀ d j, 43 < d → X1 d j = X d j := fun d j hd => d6 d j (by omega) (by omega)
    have hn2 : ∀ k, k < h1.2.1 → ¬ (h1.2.2.1 k = 0 ∧ h1.2.2.2.1 k = 0) := fun k hk z => hn k hk (by rw [(eC k (by omega)).1, (eC k (by omega)).2]; exact z)
    refine ct_X8_lay (m := h1.2.1) (by rw [f1 44 3 (by omega)]; exact m1.2.1) hm8 (fun k hk => by rw [f1 45 k (by omega), (eM k hk).1]; exact (bA k hk).1) (fun k hk => by rw [f1 46 k (by omega), (eM k hk).2]; exact (bA k hk).2) (fun z => absurd z (by omega)) (fun _ z => ?_) (fun _ _ X2 hL => ?_)
    · obtain ⟨k, hk1, hk2, hk3⟩ := z
      rw [f1 45 k (by omega), (eM k (by omega)).1] at hk2
      rw [f1 46 k (by omega), (eM k (by omega)).2] at hk3
      exact absurd ⟨hk2, hk3⟩ (hn2 k hk1)
    · obtain ⟨l1, l2, l3, l4, l5, l6, l7, l8⟩ := hL
      have f2 : ∀ d j, d < 44 → X2 d j = X1 d j := fun d j hd => l1 d j (by omega) (by omega) (by omega) (by omega) (by omega) (by omega)
      refine hK X2 h1 (layMv h1, 0, 0) (0, 0, 0) h4 ⟨⟨c1.fr (fun d j hd => ?_), ⟨?_, fun _ => ⟨d1.fr (fun d k y1 y2 => f2 d k (by omega)), d2.fr (fun d k y1 y2 => f2 d k (by omega)), ?_, ?_⟩⟩, ⟨?_, fun z => absurd z (by decide)⟩, c4.fr (fun d j hd => ?_)⟩, ⟨m1.fr ?_ ?_ (fun d j hd => ?_), ⟨l3, fun _ => ⟨⟨l3, ?_, fun k hk => ?_, fun i j hi hj => l8 i j hi hj⟩, l4, l5⟩⟩, ⟨l6, fun z => absurd z (by decide)⟩, m4.fr ?_ (fun d j hd => ?_)⟩, p1, fun _ => ⟨layMv_ok p1 h0 hn2, rfl⟩, Or.inl rfl, p4⟩
      · rw [f2 d j (by omega)]; exact d6 d j (by omega) (by omega)
      · rw [f2 5 0 (by omega)]; exact d1.1
      · rw [f2 5 2 (by omega)]; exact d3
      · rw [f2 5 3 (by omega)]; exact d4
      · rw [f2 29 0 (by omega)]; exact d5
      · rw [f2 d j (by omega)]; exact d6 d j (by omega) (by omega)
      · rw [l2 0 (by omega) (by omega) (by omega) (by omega)]; exact f1 44 0 (by omega)
      · rw [l2 3 (by omega) (by omega) (by omega) (by omega)]; exact f1 44 3 (by omega)
      · rw [l1 d j (by omega) (by omega) (by omega) (by omega) (by omega) (by omega)]; exact f1 d j (by omega)
      · rw [l2 0 (by omega) (by omega) (by omega) (by omega), f1 44 0 (by omega)]; exact m1.1
      · have hk2 : k < h1.2.1 := hk
        obtain ⟨y1, y2, y3, y4⟩ := l7 k hk2
        rw [y1, y2, y3, y4, f1 45 k (by omega), f1 46 k (by omega), f1 47 k (by omega), (eM k (by omega)).1, (eM k (by omega)).2, m1.2.2.2 k hk2]
        exact ⟨rfl, rfl, rfl, rfl⟩
      · rw [l2 25 (by omega) (by omega) (by omega) (by omega)]; exact f1 44 25 (by omega)
      · rw [l1 d j (by omega) (by omega) (by omega) (by omega) (by omega) (by omega)]; exact f1 d j (by omega)
end
