section
variable {l : Launch} {g : Geo} {X : Mm} {K0 : AV → Mm → Prop} {h1 : sG1} {h2 : sG2} {h3 : sG3} {h4 : sG4}
/-- nothing that counts has changed on either side -/
theorem JJ.fr {X1 X2 : Mm} (hJ : JJ X h1 h2 h3 h4) (e1 : ∀ d j, (d ≤ 10 ∨ (17 ≤ d ∧ d ≤ 29) ∨ (31 ≤ d ∧ d ≤ 34) ∨ 43 < d) → X1 d j = X d j) (e2 : ∀ d j, d < 44 → X2 d j = X1 d j) (e3 : ∀ j, (j = 0 ∨ j = 3 ∨ j = 5 ∨ (11 ≤ j ∧ j ≤ 15) ∨ j = 25) → X2 44 j = X1 44 j) (e4 : ∀ d j, ((45 ≤ d ∧ d ≤ 52) ∨ (58 ≤ d ∧ d ≤ 60)) → X2 d j = X1 d j) : JJ X2 h1 h2 h3 h4 :=
  ⟨hJ.1.fr (fun d j q => (e2 d j (by omega)).trans (e1 d j (by omega))), hJ.2.1.fr (fun j q => (e3 j q).trans (e1 44 j (by omega))) (fun d j q => (e4 d j q).trans (e1 d j (by omega))), hJ.2.2⟩
theorem JM.up {X1 : Mm} (hM : JM X h1 h2 h3 h4) (e1 : ∀ d j, 43 < d → X1 d j = X d j) : JM X1 h1 h2 h3 h4 := hM.fr (fun j _ => e1 44 j (by omega)) (fun d j q => e1 d j (by omega))
/-! points -/
/-- the point is another one, on both sides -/
theorem JJ.pt {X1 X2 : Mm} {a b : Int} (hJ : JJ X h1 h2 h3 h4) (hn : vn h2.1 ≠ 0) (hp : ptOk h2.1 a b) (hc : PtC X a b X1) (hm : PtM X1 a b X2) : JJ X2 h1 h2 (1, a, b) h4 := by
  obtain ⟨⟨c1, c2, c3, c4⟩, ⟨m1, m2, m3, m4⟩, p1, p2, p3, p4⟩ := hJ
  obtain ⟨y1, y2, y3, y4⟩ := hc
  obtain ⟨z1, z2, z3, z4, z5⟩ := hm
  have f : ∀ d j, d ≠ 44 → d ≠ 29 → d ≠ 30 → X2 d j = X d j := fun d j q1 q2 q3 => (z1 d j q1).trans (y1 d j q2 q3)
  have f44 : ∀ j, (j < 13 ∨ 19 < j) → X2 44 j = X 44 j := fun j q => (z2 j q).trans (y1 44 j (by omega) (by omega))
  exact ⟨⟨c1.fr (fun d j q => f d j (by omega) (by omega) (by omega)), c2.fr (fun d j q => f d j (by omega) (by omega) (by omega)), ⟨(z1 29 0 (by omega)).trans y2, fun _ => ⟨(z1 29 1 (by omega)).trans y3, (z1 29 2 (by omega)).trans y4⟩⟩, c4.fr (fun d j q => f d j (by omega) (by omega) (by omega))⟩, ⟨m1.fr (f44 0 (by omega)) (f44 3 (by omega)) (fun d j q => f d j (by omega) (by omega) (by omega)), m2.fr (fun j q => f44 j (by omega)) (fun d j q => f d j (by omega) (by omega) (by omega)), ⟨z3, fun _ => ⟨z4, z5⟩⟩, m4.fr (f44 25 (by omega)) (fun d j q => f d j (by omega) (by omega) (by omega))⟩, p1, p2, Or.inr ⟨rfl, hn, hp⟩, p4⟩
/-- only the reference's scratch has changed behind what the class's scratch was -/
theorem JJ.sc {X1 X2 : Mm} (hJ : JJ X h1 h2 h3 h4) (hc : ScC X X1) (hm : Sc X1 X2) : JJ X2 h1 h2 h3 h4 :=
  hJ.fr (fun d j q => hc d j (by omega)) (fun d j q => hm.1 d j (by omega)) (fun j q => hm.2 j (by omega)) (fun d j q => hm.1 d j (by omega))
theorem pr_point (hJ : JJ X h1 h2 h3 h4) {a b : Int} (ha : i32r a) (hb : i32r b) (hk : ∀ (w : Int) (X1 : Mm), Aft l g mX8_point [vR 44, vI a, vI b] (vI w) X1 → K0 (vI w) X1) : Ct l g mX7_point [vR 0, vI a, vI b] X K0 := by
  obtain ⟨⟨c1, c2, c3, c4⟩, hM, p1, p2, p3, p4⟩ := id hJ
  refine ct_X7_point (v := h2.1) ha hb c2.1 (by rw [c1.1]; exact p1.1) (fun hn => ⟨c1.1.trans (p2 hn).2.symm, (c2.2 hn).2.1, (p2 hn).1⟩) (fun q => hk (-1) X (fun K hK => ?_)) (fun hn q X1 hP => hk _ X1 (fun K hK => ?_))
  · by_cases hn : vn h2.1 = 0
    · obtain ⟨w, w0, wM⟩ := hM.2.1.any hn
      exact ct_X8_point (v := w) ha hb wM (fun z => absurd w0 z) (fun _ => hK X _ _ _ _ hJ) (fun z => absurd w0 z)
    · exact ct_X8_point (v := h2.1) ha hb (hM.2.1.2 hn).1 (fun _ => (p2 hn).1) (fun _ => hK X _ _ _ _ hJ) (fun _ z => absurd z (q.resolve_left hn))
  · have hM1 := hM.up (X1 := X1) (fun d j q => hP.1 d j (by omega) (by omega))
    exact ct_X8_point (v := h2.1) ha hb (hM1.2.1.2 hn).1 (fun _ => (p2 hn).1) (fun z => absurd (z.resolve_left hn) (fun y => y q)) (fun _ _ X2 hP2 => hK X2 _ _ _ _ (hJ.pt hn q hP hP2))
theorem pr_move (hJ : JJ X h1 h2 h3 h4) {m : Int} (hm : i32r m) (hk : ∀ (w : Int) (X1 : Mm), Aft l g mX8_move [vR 44, vI m] (vI w) X1 → K0 (vI w) X1) : Ct l g mX7_move [vR 0, vI m] X K0 := by
  obtain ⟨⟨c1, c2, c3, c4⟩, hM, p1, p2, p3, p4⟩ := id hJ
  obtain ⟨f, h, hfh⟩ : ∃ f h, (0 ≤ m ∧ f = va h2.1 ∧ h = vu h2.1) ∨ (m < 0 ∧ f = vu h2.1 ∧ h = va h2.1) := by
    rcases Int.lt_or_le m 0 with z | z
    · exact ⟨_, _, Or.inr ⟨z, rfl, rfl⟩⟩
    · exact ⟨_, _, Or.inl ⟨z, rfl, rfl⟩⟩
  have ht : h3.1 = 0 ∨ h3.1 = 1 := p3.elim Or.inl (fun z => Or.inr z.1)
  have hp : h3.1 = 1 → vn h2.1 ≠ 0 ∧ ptOk h2.1 h3.2.1 h3.2.2 := fun z => (p3.resolve_left (by omega)).2
  have hMX : ∀ X1, JM X1 h1 h2 h3 h4 → X1 44 13 = 1 → MvM X1 h2.1 ∧ Vd h2.1 ∧ X1 44 14 = h3.2.1 ∧ X1 44 15 = h3.2.2 ∧ ptOk h2.1 h3.2.1 h3.2.2 := fun X1 hM1 z => by
    have z2 : h3.1 = 1 := by rw [← hM1.2.2.1.1]; exact z
    have hn := (hp z2).1
    exact ⟨(hM1.2.1.2 hn).1, (p2 hn).1, (hM1.2.2.1.2 z2).1, (hM1.2.2.1.2 z2).2, (hp z2).2⟩
  have e13 : X 44 13 = h3.1 := hM.2.2.1.1
  have e29 : X 29 0 = h3.1 := c3.1
  refine ct_X7_move (v := h2.1) (a := h3.2.1) (b := h3.2.2) (f := f) (h := h) hm (by rw [e29]; exact ht) hfh (fun z => ?_) (fun q => hk (-1) X (fun K hK => ?_)) (fun z hr q X1 hs => hk (-1) X1 (fun K hK => ?_)) (fun z hr a2 b2 q X1 hP => hk _ X1 (fun K hK => ?_))
  · have z2 : h3.1 = 1 := by rw [← e29]; exact z
    have hn := (hp z2).1
    exact ⟨(c2.2 hn).2.1, (p2 hn).1, (c3.2 z2).1, (c3.2 z2).2, (hp z2).2⟩
  · exact ct_X8_move (v := h2.1) (a := h3.2.1) (b := h3.2.2) (f := f) (h := h) hm (by rw [e13]; exact ht) hfh (hMX X hM) (fun _ => hK X _ _ _ _ hJ) (fun z hr _ _ _ => by rw [e29] at q; rw [e13] at z; omega) (fun z hr _ _ _ _ _ => by rw [e29] at q; rw [e13] at z; omega)
  · have hM1 := hM.up (X1 := X1) (fun d j y => hs d j (by omega))
    have e1 : X1 44 13 = h3.1 := hM1.2.2.1.1
    exact ct_X8_move (v := h2.1) (a := h3.2.1) (b := h3.2.2) (f := f) (h := h) hm (by rw [e1]; exact ht) hfh (hMX X1 hM1) (fun y => by rw [e29] at z; rw [e1] at y; omega) (fun _ _ _ X2 hs2 => hK X2 _ _ _ _ (hJ.sc hs hs2)) (fun _ _ a2 b2 y => by rw [q] at y; cases y)
  · have hM1 := hM.up (X1 := X1) (fun d j y => hP.1 d j (by omega) (by omega))
    have e1 : X1 44 13 = h3.1 := hM1.2.2.1.1
    have z2 : h3.1 = 1 := by rw [← e29]; exact z
    have hn := (hp z2).1
    have hv := (p2 hn).1
    have hok : ptOk h2.1 a2 b2 := by
      rcases hfh with ⟨_, e, e'⟩ | ⟨_, e, e'⟩
      · rw [e, e'] at q
        exact mvN_pV hv hv.2.2.2.2.1 hv.2.2.2.2.2.1 _ _ _ _ _ (hp z2).2 q
      · rw [e, e'] at q
        exact mvN_pV hv hv.2.2.2.2.2.1 hv.2.2.2.2.1 _ _ _ _ _ (hp z2).2 q
    refine ct_X8_move (v := h2.1) (a := h3.2.1) (b := h3.2.2) (f := f) (h := h) hm (by rw [e1]; exact ht) hfh (hMX X1 hM1) (fun y => by rw [e1] at y; omega) (fun _ _ y => by rw [q] at y; cases y) (fun _ _ a3 b3 y X2 hP2 => ?_)
    rw [q] at y
    obtain ⟨rfl, rfl⟩ : a2 = a3 ∧ b2 = b3 := by
      have := Option.some.inj y
      exact ⟨congrArg Prod.fst this, congrArg Prod.snd this⟩
    exact hK X2 _ _ _ _ (hJ.pt hn hok hP hP2)
theorem pr_back (hJ : JJ X h1 h2 h3 h4) {x y : Int} (hx : i32r x) (hy : i32r y) (hk : ∀ (w : Int) (X1 : Mm), Aft l g mX8_back [vR 44, vI x, vI y] (vI w) X1 → K0 (vI w) X1) : Ct l g mX7_back [vR 0, vI x, vI y] X K0 := by
  obtain ⟨⟨c1, c2, c3, c4⟩, hM, p1, p2, p3, p4⟩ := id hJ
  have ht : h3.1 = 0 ∨ h3.1 = 1 := p3.elim Or.inl (fun z => Or.inr z.1)
  have hp : h3.1 = 1 → vn h2.1 ≠ 0 ∧ ptOk h2.1 h3.2.1 h3.2.2 := fun z => (p3.resolve_left (by omega)).2
  have hMX : ∀ X1, JM X1 h1 h2 h3 h4 → X1 44 13 = 1 → MvM X1 h2.1 ∧ Vd h2.1 ∧ X1 44 14 = h3.2.1 ∧ X1 44 15 = h3.2.2 ∧ ptOk h2.1 h3.2.1 h3.2.2 := fun X1 hM1 z => by
    have z2 : h3.1 = 1 := by rw [← hM1.2.2.1.1]; exact z
    have hn := (hp z2).1
    exact ⟨(hM1.2.1.2 hn).1, (p2 hn).1, (hM1.2.2.1.2 z2).1, (hM1.2.2.1.2 z2).2, (hp z2).2⟩
  have e13 : X 44 13 = h3.1 := hM.2.2.1.1
  have e29 : X 29 0 = h3.1 := c3.1
  refine ct_X7_back (v := h2.1) (a := h3.2.1) (b := h3.2.2) hx hy (by rw [e29]; exact ht) (fun z => ?_) (fun q => hk (-1) X (fun K hK => ?_)) (fun z hr q X1 hs => hk (-2) X1 (fun K hK => ?_)) (fun z hr k a2 b2 q X1 hP => hk _ X1 (fun K hK => ?_))
  · have z2 : h3.1 = 1 := by rw [← e29]; exact z
    have hn := (hp z2).1
    exact ⟨c1.1.trans (p2 hn).2.symm, (c2.2 hn).2.1, (p2 hn).1, (c3.2 z2).1, (c3.2 z2).2, (hp z2).2⟩
  · exact ct_X8_back (v := h2.1) (a := h3.2.1) (b := h3.2.2) hx hy (by rw [e13]; exact ht) (hMX X hM) (fun _ => hK X _ _ _ _ hJ) (fun z hr _ _ _ => absurd hr (q.resolve_left (by rw [e29]; rw [e13] at z; omega))) (fun z hr _ _ _ _ _ _ => absurd hr (q.resolve_left (by rw [e29]; rw [e13] at z; omega)))
  · have hM1 := hM.up (X1 := X1) (fun d j w => hs d j (by omega))
    have e1 : X1 44 13 = h3.1 := hM1.2.2.1.1
    exact ct_X8_back (v := h2.1) (a := h3.2.1) (b := h3.2.2) hx hy (by rw [e1]; exact ht) (hMX X1 hM1) (fun w => absurd hr (w.resolve_left (by rw [e1]; rw [e29] at z; omega))) (fun _ _ _ X2 hs2 => hK X2 _ _ _ _ (hJ.sc hs hs2)) (fun _ _ k a2 b2 w => by rw [q] at w; cases w)
  · have hM1 := hM.up (X1 := X1) (fun d j w => hP.1 d j (by omega) (by omega))
    have e1 : X1 44 13 = h3.1 := hM1.2.2.1.1
    have z2 : h3.1 = 1 := by rw [← e29]; exact z
    have hn := (hp z2).1
    have hv := (p2 hn).1
    have hok : ptOk h2.1 a2 b2 := bkN_pV hv _ _ _ _ _ _ _ (hp z2).2 q
    refine ct_X8_back (v := h2.1) (a := h3.2.1) (b := h3.2.2) hx hy (by rw [e1]; exact ht) (hMX X1 hM1) (fun w => absurd hr (w.resolve_left (by rw [e1]; omega))) (fun _ _ w => by rw [q] at w; cases w) (fun _ _ k3 a3 b3 w X2 hP2 => ?_)
    rw [q] at w
    have e := Option.some.inj w
    have ek : k = k3 := congrArg Prod.fst e
    have ea : a2 = a3 := congrArg (fun t => t.2.1) e
    have eb : b2 = b3 := congrArg (fun t => t.2.2) e
    subst ek
    subst ea
    subst eb
    exact hK X2 _ _ _ _ (hJ.pt hn hok hP hP2)
theorem pr_visits (hJ : JJ X h1 h2 h3 h4) {k m : Int} (hk0 : i32r k) (hm : i32r m) (hk : ∀ (w : Int) (X1 : Mm), Aft l g mX8_visits [vR 44, vI k, vI m] (vI w) X1 → K0 (vI w) X1) : Ct l g mX7_visits [vR 0, vI k, vI m] X K0 := by
  obtain ⟨⟨c1, c2, c3, c4⟩, hM, p1, p2, p3, p4⟩ := id hJ
  have n8 := p2.n8
  have ht : h3.1 = 0 ∨ h3.1 = 1 := p3.elim Or.inl (fun z => Or.inr z.1)
  have hp : h3.1 = 1 → vn h2.1 ≠ 0 ∧ ptOk h2.1 h3.2.1 h3.2.2 := fun z => (p3.resolve_left (by omega)).2
  have hMX : ∀ X1, JM X1 h1 h2 h3 h4 → X1 44 13 = 1 → MvM X1 h2.1 ∧ Vd h2.1 ∧ X1 44 14 = h3.2.1 ∧ X1 44 15 = h3.2.2 ∧ ptOk h2.1 h3.2.1 h3.2.2 := fun X1 hM1 z => by
    have z2 : h3.1 = 1 := by rw [← hM1.2.2.1.1]; exact z
    have hn := (hp z2).1
    exact ⟨(hM1.2.1.2 hn).1, (p2 hn).1, (hM1.2.2.1.2 z2).1, (hM1.2.2.1.2 z2).2, (hp z2).2⟩
  have e13 : X 44 13 = h3.1 := hM.2.2.1.1
  have e29 : X 29 0 = h3.1 := c3.1
  refine ct_X7_visits (v := h2.1) (n := vn h2.1) (a := h3.2.1) (b := h3.2.2) hk0 hm c2.1 n8 (by rw [e29]; exact ht) (fun z => ?_) (fun q => hk (-1) X (fun K hK => ?_)) (fun z hr X1 hs => hk _ X1 (fun K hK => ?_))
  · have z2 : h3.1 = 1 := by rw [← e29]; exact z
    have hn := (hp z2).1
    exact ⟨(c2.2 hn).2.1, (p2 hn).1, (c3.2 z2).1, (c3.2 z2).2, (hp z2).2⟩
  · exact ct_X8_visits (v := h2.1) (n := vn h2.1) (a := h3.2.1) (b := h3.2.2) hk0 hm hM.2.1.1 n8 (by rw [e13]; exact ht) (hMX X hM) (fun _ => hK X _ _ _ _ hJ) (fun z hr => by rw [e29] at q; rw [e13] at z; omega)
  · have hM1 := hM.up (X1 := X1) (fun d j w => hs d j (by omega))
    have e1 : X1 44 13 = h3.1 := hM1.2.2.1.1
    exact ct_X8_visits (v := h2.1) (n := vn h2.1) (a := h3.2.1) (b := h3.2.2) hk0 hm hM1.2.1.1 n8 (by rw [e1]; exact ht) (hMX X1 hM1) (fun w => by rw [e29] at z; rw [e1] at w; omega) (fun _ _ X2 hs2 => hK X2 _ _ _ _ (hJ.sc hs hs2))
/-! steps -/
theorem stC_ok {v : Mv} (hv : Vd v) : ∀ d, Vd (stC d v).2.1 ∧ vn (stC d v).2.1 = vn v ∧ vr (stC d v).2.1 = vr v := by
  intro d
  induction d generalizing v with
  | zero => exact ⟨hv, rfl, rfl⟩
  | succ d ih =>
    by_cases h : 0 ≤ stR v
    · obtain ⟨a, b, c, _⟩ := stN_ok hv h
      obtain ⟨a2, b2, c2⟩ := ih a
      rw [stC_1 h]
      exact ⟨a2, b2.trans b, c2.trans c⟩
    · rw [stC_0 (by omega)]
      exact ⟨hv, rfl, rfl⟩
/-- both movers have made the same steps -/
theorem JJ.st {X1 X2 : Mm} {v2 : Mv} {k su : Int} (hJ : JJ X h1 h2 h3 h4) (hn : vn h2.1 ≠ 0) (hv2 : Vd v2) (hr2 : vr v2 = vr h2.1) (hc : StC X v2 h3.2.1 h3.2.2 k su X1) (hm : StM X1 v2 h3.2.1 h3.2.2 k su X2) : ∃ i3, JJ X2 h1 (v2, h2.2.1 + k, h2.2.2 + su) i3 h4 := by
  obtain ⟨⟨c1, c2, c3, c4⟩, ⟨m1, m2, m3, m4⟩, p1, p2, p3, p4⟩ := hJ
  obtain ⟨y1, y2, y3, y4, y5, y6, y7, y8⟩ := hc
  obtain ⟨z1, z2, z3, z4, z5, z6, z7⟩ := hm
  have hn2 : vn v2 ≠ 0 := by have := hv2.1; omega
  have up : ∀ d j, 43 < d → X1 d j = X d j := fun d j q => y8 d j (by omega) (by omega)
  have lo : ∀ d j, d < 44 → X2 d j = X1 d j := fun d j q => z7 d j (by omega) (by omega)
  have f44 : ∀ j, j ≠ 11 → j ≠ 12 → j ≠ 13 → X2 44 j = X 44 j := fun j q1 q2 q3 => (z6 j q1 q2 q3).trans (up 44 j (by omega))
  have e13 : X1 44 13 = h3.1 := (up 44 13 (by omega)).trans m3.1
  obtain ⟨a2, a3, a4⟩ := (c2.2 hn).2
  obtain ⟨b2, b3⟩ := (m2.2 hn).2
  have main : ∀ t : Int, X2 29 0 = t → X2 44 13 = t → Pu3 v2 (t, h3.2.1, h3.2.2) → (t = 1 → h3.1 = 1) → JJ X2 h1 (v2, h2.2.1 + k, h2.2.2 + su) (t, h3.2.1, h3.2.2) h4 := by
    intro t t1 t2 t3 t4
    refine ⟨⟨c1.fr (fun d j q => (lo d j (by omega)).trans (y8 d j (by omega) (by omega))), ⟨?_, fun _ => ⟨y1.fr (fun d k q1 q2 => lo d k (by omega)), y2.fr (fun d k q1 q2 => lo d k (by omega)), ?_, ?_⟩⟩, ⟨t1, fun z => ?_⟩, c4.fr (fun d j q => (lo d j (by omega)).trans (y8 d j (by omega) (by omega)))⟩, ⟨m1.fr (f44 0 (by omega) (by omega) (by omega)) (f44 3 (by omega) (by omega) (by omega)) (fun d j q => (z7 d j (by omega) (by omega)).trans (up d j (by omega))), ⟨z1.1, fun _ => ⟨z1, ?_, ?_⟩⟩, ⟨t2, fun z => ?_⟩, m4.fr (f44 25 (by omega) (by omega) (by omega)) (fun d j q => (z7 d j (by omega) (by omega)).trans (up d j (by omega)))⟩, p1, fun _ => ⟨hv2, hr2.trans (p2 hn).2⟩, t3, p4⟩
    · rw [lo 5 0 (by omega)]; exact y1.1
    · rw [lo 5 2 (by omega), y3, a3]
    · rw [lo 5 3 (by omega), y4, a4]
    · rw [lo 29 1 (by omega), lo 29 2 (by omega), y7 1 (by omega), y7 2 (by omega)]
      exact c3.2 (t4 z)
    · rw [z2, up 44 11 (by omega), b2]
    · rw [z3, up 44 12 (by omega), b3]
    · rw [f44 14 (by omega) (by omega) (by omega), f44 15 (by omega) (by omega) (by omega)]
      exact m3.2 (t4 z)
  by_cases q : h3.1 = 1 ∧ onL v2 h3.2.1 h3.2.2
  · refine ⟨_, main 1 ((lo 29 0 (by omega)).trans (y5 ⟨c3.1.trans q.1, q.2⟩)) (z4 ⟨e13.trans q.1, q.2⟩) (Or.inr ⟨rfl, hn2, ?_⟩) (fun _ => q.1)⟩
    have hp := (p3.resolve_left (by omega)).2.2
    exact ⟨hp.1, fun e => hp.2.1 (by rw [← hr2]; exact e), q.2⟩
  · exact ⟨_, main 0 ((lo 29 0 (by omega)).trans (y6 (fun w => q ⟨c3.1.symm.trans w.1, w.2⟩))) (z5 (fun w => q ⟨e13.symm.trans w.1, w.2⟩)) (Or.inl rfl) (fun w => by omega)⟩
theorem pr_step (hJ : JJ X h1 h2 h3 h4) (hk : ∀ (w : Int) (X1 : Mm), Aft l g mX8_step [vR 44] (vI w) X1 → K0 (vI w) X1) : Ct l g mX7_step [vR 0] X K0 := by
  obtain ⟨⟨c1, c2, c3, c4⟩, hM, p1, p2, p3, p4⟩ := id hJ
  have ht : h3.1 = 0 ∨ h3.1 = 1 := p3.elim Or.inl (fun z => Or.inr z.1)
  have hp : h3.1 = 1 → vn h2.1 ≠ 0 ∧ ptOk h2.1 h3.2.1 h3.2.2 := fun z => (p3.resolve_left (by omega)).2
  have e13 : X 44 13 = h3.1 := hM.2.2.1.1
  have e29 : X 29 0 = h3.1 := c3.1
  by_cases hn : vn h2.1 = 0
  · obtain ⟨w, w0, wC⟩ := c2.any hn
    have t0 : h3.1 = 0 := ht.resolve_right (fun z => (hp z).1 hn)
    refine ct_X7_step (v := w) (a := 0) (b := 0) wC (fun z => absurd w0 z) (by rw [e29]; exact ht) (fun z => by rw [e29] at z; omega) (fun _ => hk (-1) X (fun K hK => ?_)) (fun z => absurd w0 z) (fun z => absurd w0 z)
    obtain ⟨u, u0, uM⟩ := hM.2.1.any hn
    exact ct_X8_step (v := u) (a := 0) (b := 0) uM (fun z => absurd u0 z) (by rw [e13]; exact ht) (fun z => by rw [e13] at z; omega) (fun _ => hK X _ _ _ _ hJ) (fun z => absurd u0 z) (fun z => absurd u0 z)
  · have hv := (p2 hn).1
    refine ct_X7_step (v := h2.1) (a := h3.2.1) (b := h3.2.2) (c2.2 hn).1 (fun _ => hv) (by rw [e29]; exact ht) (fun z => ?_) (fun z => absurd z hn) (fun _ q => hk _ X (fun K hK => ?_)) (fun _ q X1 hS => hk _ X1 (fun K hK => ?_))
    · rw [e29] at z
      exact ⟨(c3.2 z).1, (c3.2 z).2, (hp z).2⟩
    · exact ct_X8_step (v := h2.1) (a := h3.2.1) (b := h3.2.2) (hM.2.1.2 hn).1 (fun _ => hv) (by rw [e13]; exact ht) (fun z => by rw [e13] at z; exact ⟨(hM.2.2.1.2 z).1, (hM.2.2.1.2 z).2, (hp z).2.1, (hp z).2.2.1⟩) (fun z => absurd z hn) (fun _ _ => hK X _ _ _ _ hJ) (fun _ z => by omega)
    · have hM1 := hM.up (X1 := X1) (fun d j w => hS.2.2.2.2.2.2.2 d j (by omega) (by omega))
      have e1 : X1 44 13 = h3.1 := hM1.2.2.1.1
      refine ct_X8_step (v := h2.1) (a := h3.2.1) (b := h3.2.2) (hM1.2.1.2 hn).1 (fun _ => hv) (by rw [e1]; exact ht) (fun z => by rw [e1] at z; exact ⟨(hM1.2.2.1.2 z).1, (hM1.2.2.1.2 z).2, (hp z).2.1, (hp z).2.2.1⟩) (fun z => absurd z hn) (fun _ z => by omega) (fun _ _ X2 y1 y2 y3 y4 y5 y6 y7 => ?_)
      obtain ⟨a, b, c, _⟩ := stN_ok hv q
      obtain ⟨i3, hi⟩ := hJ.st hn a c hS ⟨y1, y2, y3, y4, y5, y6, y7⟩
      exact hK X2 _ _ _ _ hi
theorem pr_steps (hJ : JJ X h1 h2 h3 h4) {m : Int} (hm : i32r m) (hk : ∀ (w : Int) (X1 : Mm), Aft l g mX8_steps [vR 44, vI m] (vI w) X1 → K0 (vI w) X1) : Ct l g mX7_steps [vR 0, vI m] X K0 := by
  obtain ⟨⟨c1, c2, c3, c4⟩, hM, p1, p2, p3, p4⟩ := id hJ
  have ht : h3.1 = 0 ∨ h3.1 = 1 := p3.elim Or.inl (fun z => Or.inr z.1)
  have hp : h3.1 = 1 → vn h2.1 ≠ 0 ∧ ptOk h2.1 h3.2.1 h3.2.2 := fun z => (p3.resolve_left (by omega)).2
  have e13 : X 44 13 = h3.1 := hM.2.2.1.1
  have e29 : X 29 0 = h3.1 := c3.1
  by_cases hn : vn h2.1 = 0
  · obtain ⟨w, w0, wC⟩ := c2.any hn
    have t0 : h3.1 = 0 := ht.resolve_right (fun z => (hp z).1 hn)
    refine ct_X7_steps (v := w) (a := 0) (b := 0) hm wC (fun z => absurd w0 z) (by rw [e29]; exact ht) (fun z => by rw [e29] at z; omega) (fun _ => hk (-1) X (fun K hK => ?_)) (fun z => absurd w0 z)
    obtain ⟨u, u0, uM⟩ := hM.2.1.any hn
    exact ct_X8_steps (v := u) (a := 0) (b := 0) hm uM (fun z => absurd u0 z) (by rw [e13]; exact ht) (fun z => by rw [e13] at z; omega) (fun _ => hK X _ _ _ _ hJ) (fun z => absurd u0 z)
  · have hv := (p2 hn).1
    refine ct_X7_steps (v := h2.1) (a := h3.2.1) (b := h3.2.2) hm (c2.2 hn).1 (fun _ => hv) (by rw [e29]; exact ht) (fun z => ?_) (fun q => hk (-1) X (fun K hK => ?_)) (fun _ q X1 hS => hk _ X1 (fun K hK => ?_))
    · rw [e29] at z
      exact ⟨(c3.2 z).1, (c3.2 z).2, (hp z).2⟩
    · exact ct_X8_steps (v := h2.1) (a := h3.2.1) (b := h3.2.2) hm (hM.2.1.2 hn).1 (fun _ => hv) (by rw [e13]; exact ht) (fun z => by rw [e13] at z; exact ⟨(hM.2.2.1.2 z).1, (hM.2.2.1.2 z).2, (hp z).2⟩) (fun _ => hK X _ _ _ _ hJ) (fun _ z => by omega)
    · have hM1 := hM.up (X1 := X1) (fun d j w => hS.2.2.2.2.2.2.2 d j (by omega) (by omega))
      have e1 : X1 44 13 = h3.1 := hM1.2.2.1.1
      refine ct_X8_steps (v := h2.1) (a := h3.2.1) (b := h3.2.2) hm (hM1.2.1.2 hn).1 (fun _ => hv) (by rw [e1]; exact ht) (fun z => by rw [e1] at z; exact ⟨(hM1.2.2.1.2 z).1, (hM1.2.2.1.2 z).2, (hp z).2⟩) (fun z => by omega) (fun _ _ X2 hS2 => ?_)
      obtain ⟨a, b, c⟩ := stC_ok hv m.toNat
      obtain ⟨i3, hi⟩ := hJ.st hn a c hS hS2
      exact hK X2 _ _ _ _ hi
theorem pr_loop (hJ : JJ X h1 h2 h3 h4) (hk : ∀ (w : Int) (X1 : Mm), Aft l g mX8_loop [vR 44] (vI w) X1 → K0 (vI w) X1) : Ct l g mX7_loop [vR 0] X K0 := by
  obtain ⟨⟨c1, c2, c3, c4⟩, hM, p1, p2, p3, p4⟩ := id hJ
  have ht : h3.1 = 0 ∨ h3.1 = 1 := p3.elim Or.inl (fun z => Or.inr z.1)
  have hp : h3.1 = 1 → vn h2.1 ≠ 0 ∧ ptOk h2.1 h3.2.1 h3.2.2 := fun z => (p3.resolve_left (by omega)).2
  have e13 : X 44 13 = h3.1 := hM.2.2.1.1
  by_cases hn : vn h2.1 = 0
  · obtain ⟨w, w0, wC⟩ := c2.any hn
    have t0 : h3.1 = 0 := ht.resolve_right (fun z => (hp z).1 hn)
    refine ct_X7_loop (v := w) wC (fun z => absurd w0 z) (fun _ => hk (-1) X (fun K hK => ?_)) (fun z => absurd w0 z)
    obtain ⟨u, u0, uM⟩ := hM.2.1.any hn
    exact ct_X8_loop (v := u) (a := 0) (b := 0) uM (fun z => absurd u0 z) (by rw [e13]; exact ht) (fun z => by rw [e13] at z; omega) (fun _ => hK X _ _ _ _ hJ) (fun z => absurd u0 z)
  · have hv := (p2 hn).1
    refine ct_X7_loop (v := h2.1) (c2.2 hn).1 (fun _ => hv) (fun z => absurd z hn) (fun _ X1 f1 => hk _ X1 (fun K hK => ?_))
    have hM1 := hM.up (X1 := X1) (fun d j w => f1 d j (by omega))
    have e1 : X1 44 13 = h3.1 := hM1.2.2.1.1
    refine ct_X8_loop (v := h2.1) (a := h3.2.1) (b := h3.2.2) (hM1.2.1.2 hn).1 (fun _ => hv) (by rw [e1]; exact ht) (fun z => by rw [e1] at z; exact ⟨(hM1.2.2.1.2 z).1, (hM1.2.2.1.2 z).2, (hp z).2⟩) (fun z => absurd z hn) (fun _ X2 y1 y2 y3 => ?_)
    refine hK X2 h1 h2 h3 h4 ⟨JC.fr hJ.1 (fun d j q => (y3 d j (by omega) (by omega)).trans (f1 d j (by omega))), ⟨hM1.1.fr (y2 0) (y2 3) (fun d j q => y3 d j (by omega) (by omega)), ⟨y1.1, fun _ => ⟨y1, (y2 11).trans (hM1.2.1.2 hn).2.1, (y2 12).trans (hM1.2.1.2 hn).2.2⟩⟩, hM1.2.2.1.fr (fun j _ => y2 j), hM1.2.2.2.fr (y2 25) (fun d j q => y3 d j (by omega) (by omega))⟩, hJ.2.2⟩
/-! rounds, words, classes, grounds -/
theorem pr_rounds (hJ : JJ X h1 h2 h3 h4) (hk : ∀ (w : Int) (X1 : Mm), Aft l g mX8_rounds [vR 44] (vI w) X1 → K0 (vI w) X1) : Ct l g mX7_rounds [vR 0] X K0 := by
  obtain ⟨⟨c1, c2, c3, c4⟩, hM, p1, p2, p3, p4⟩ := id hJ
  by_cases hn : vn h2.1 = 0
  · obtain ⟨w, w0, wC⟩ := c2.any hn
    refine ct_X7_rounds (v := w) wC (fun z => absurd w0 z) (fun z => absurd w0 z) (fun z => absurd w0 z) (fun _ => hk (-1) X (fun K hK => ?_)) (fun z => absurd w0 z) (fun z => absurd w0 z)
    obtain ⟨u, u0, uM⟩ := hM.2.1.any hn
    exact ct_X8_rounds (v := u) uM (fun z => absurd u0 z) (fun _ => hK X _ _ _ _ hJ) (fun z => absurd u0 z) (fun z => absurd u0 z)
  · have hv := (p2 hn).1
    refine ct_X7_rounds (v := h2.1) (c2.2 hn).1 (fun _ => (c2.2 hn).2.1) (fun _ => hv) (fun _ => c1.1.trans (p2 hn).2.symm) (fun z => absurd z hn) (fun _ q => hk (-2) X (fun K hK => ?_)) (fun _ q1 q2 X1 f1 e1 r1 => hk _ X1 (fun K hK => ?_))
    · exact ct_X8_rounds (v := h2.1) (hM.2.1.2 hn).1 (fun _ => hv) (fun z => absurd z hn) (fun _ _ => hK X _ _ _ _ hJ) (fun _ y1 y2 => by omega)
    · have hM1 := hM.up (X1 := X1) (fun d j w => f1 d j (by omega))
      refine ct_X8_rounds (v := h2.1) (hM1.2.1.2 hn).1 (fun _ => hv) (fun z => absurd z hn) (fun _ y => by omega) (fun _ _ _ X2 f2 e2 r2 => ?_)
      have lo : ∀ d j, d < 44 → X2 d j = X1 d j := fun d j q => f2 d j (by omega) (by omega)
      have hle := nRd_le hv q1
      have n8 := hv.2.1
      refine hK X2 h1 h2 h3 (nRd h2.1 (pN h2.1), X1 32, X1 33, X1 34) ⟨⟨c1.fr (fun d j q => (lo d j (by omega)).trans (f1 d j (by omega))), c2.fr (fun d j q => (lo d j (by omega)).trans (f1 d j (by omega))), c3.fr (fun j => (lo 29 j (by omega)).trans (f1 29 j (by omega))), ⟨(lo 31 0 (by omega)).trans e1, fun q hq => ⟨lo 32 q (by omega), lo 33 q (by omega), lo 34 q (by omega)⟩⟩⟩, ⟨hM1.1.fr (f2 44 0 (by omega) (by omega)) (f2 44 3 (by omega) (by omega)) (fun d j q => f2 d j (by omega) (by omega)), hM1.2.1.fr (fun j q => f2 44 j (by omega) (by omega)) (fun d j q => f2 d j (by omega) (by omega)), hM1.2.2.1.fr (fun j q => f2 44 j (by omega) (by omega)), ⟨e2, fun q hq => ?_⟩⟩, p1, p2, p3, ?_⟩
      · obtain ⟨k, hk1, hk2, hk3⟩ := fb_ct_kth (p := unP (pN h2.1) (pT h2.1) (pR h2.1)) (k := q) (n := pN h2.1) hq
        have hk4 : nRd h2.1 k = q := hk3
        obtain ⟨a1, a2, a3⟩ := r1 k hk1 hk2
        obtain ⟨b1, b2, b3⟩ := r2 k hk1 hk2
        rw [hk4] at a1 a2 a3 b1 b2 b3
        exact ⟨b1.trans a1.symm, b2.trans a2.symm, b3.trans a3.symm⟩
      · show nRd h2.1 (pN h2.1) ≤ 8
        omega
theorem pr_words (hJ : JJ X h1 h2 h3 h4) {m : Int} (hm : i32r m) (hk : ∀ (w : Int) (X1 : Mm), Aft l g mX8_words [vR 44, vI m] (vI w) X1 → K0 (vI w) X1) : Ct l g mX7_words [vR 0, vI m] X K0 := by
  obtain ⟨⟨c1, c2, c3, c4⟩, hM, p1, p2, p3, p4⟩ := id hJ
  by_cases hn : vn h2.1 = 0
  · obtain ⟨w, w0, wC⟩ := c2.any hn
    refine ct_X7_words (v := w) hm wC (fun z => absurd w0 z) (fun z => absurd w0 z) (fun _ => hk (-1) X (fun K hK => ?_)) (fun z => absurd w0 z) (fun z => absurd w0 z)
    obtain ⟨u, u0, uM⟩ := hM.2.1.any hn
    exact ct_X8_words (v := u) hm uM (fun z => absurd u0 z) (fun _ => hK X _ _ _ _ hJ) (fun z => absurd u0 z) (fun z => absurd u0 z)
  · have hv := (p2 hn).1
    refine ct_X7_words (v := h2.1) hm (c2.2 hn).1 (fun _ => (c2.2 hn).2.1) (fun _ => hv) (fun z => absurd z hn) (fun _ q => hk (-2) X (fun K hK => ?_)) (fun _ q X1 f1 => hk _ X1 (fun K hK => ?_))
    · exact ct_X8_words (v := h2.1) hm (hM.2.1.2 hn).1 (fun _ => hv) (fun z => absurd z hn) (fun _ _ => hK X _ _ _ _ hJ) (fun _ y => by omega)
    · have hM1 := hM.up (X1 := X1) (fun d j w => f1 d j (by omega))
      exact ct_X8_words (v := h2.1) hm (hM1.2.1.2 hn).1 (fun _ => hv) (fun z => absurd z hn) (fun _ y => by omega) (fun _ _ X2 f2 => hK X2 _ _ _ _ (hJ.fr (fun d j q => f1 d j (by omega)) (fun d j q => f2 d j (by omega) (by omega) (by omega)) (fun j q => f2 44 j (by omega) (by omega) (by omega)) (fun d j q => f2 d j (by omega) (by omega) (by omega))))
theorem pr_classes (hJ : JJ X h1 h2 h3 h4) (hk : ∀ (w : Int) (X1 : Mm), Aft l g mX8_classes [vR 44] (vI w) X1 → K0 (vI w) X1) : Ct l g mX7_classes [vR 0] X K0 := by
  obtain ⟨⟨c1, c2, c3, c4⟩, hM, p1, p2, p3, p4⟩ := id hJ
  by_cases hn : vn h2.1 = 0
  · obtain ⟨w, w0, wC⟩ := c2.any hn
    refine ct_X7_classes (v := w) wC (fun z => absurd w0 z) (fun _ => hk (-1) X (fun K hK => ?_)) (fun z => by omega) (fun z => absurd w0 z)
    obtain ⟨u, u0, uM⟩ := hM.2.1.any hn
    exact ct_X8_classes (v := u) uM (fun z => absurd u0 z) (fun _ => hK X _ _ _ _ hJ) (fun z => by omega) (fun z => absurd u0 z)
  · have hv := (p2 hn).1
    refine ct_X7_classes (v := h2.1) (c2.2 hn).1 (fun _ => hv) (fun z => absurd z hn) (fun q => hk (-2) X (fun K hK => ?_)) (fun _ q X1 f1 => hk _ X1 (fun K hK => ?_))
    · exact ct_X8_classes (v := h2.1) (hM.2.1.2 hn).1 (fun _ => hv) (fun z => absurd z hn) (fun _ => hK X _ _ _ _ hJ) (fun _ y => by omega)
    · have hM1 := hM.up (X1 := X1) (fun d j w => f1 d j (by omega))
      exact ct_X8_classes (v := h2.1) (hM1.2.1.2 hn).1 (fun _ => hv) (fun z => absurd z hn) (fun y => by omega) (fun _ _ X2 f2 => hK X2 _ _ _ _ (hJ.fr (fun d j q => f1 d j (by omega)) (fun d j q => f2 d j (by omega) (by omega)) (fun j q => f2 44 j (by omega) (by omega)) (fun d j q => f2 d j (by omega) (by omega))))
theorem gd_eq {v : Mv} (hv : Vd v) (w : Int) : gdR (vn v) w (nPt (lbC v (vn v)) (2 * vn v)) (mTu (lbC v (vn v)) (vn v) (2 * vn v)) (nOn (lbC v (vn v)) (vn v) (2 * vn v)) = gdR (vn v) w (nPt (lbM v (vn v)) (2 * vn v)) (mTf (lbM v (vn v)) (vn v) (2 * vn v)) (nOn (lbM v (vn v)) (vn v) (2 * vn v)) := by
  have hk : ∀ c d, lbC v (vn v) c = lbC v (vn v) d ↔ lbM v (vn v) c = lbM v (vn v) d := fun c d => (lbC_iff v c d).trans (lbM_iff hv c d).symm
  have lC := lbC_lt hv (vn v) (Nat.le_refl _)
  have lM := lbM_lt hv (vn v) (Nat.le_refl _)
  have iC := lbC_idem v (vn v)
  have iM := lbM_idem v (vn v)
  have e1 : nPt (lbC v (vn v)) (2 * vn v) = nPt (lbM v (vn v)) (2 * vn v) := by
    have h := fix_eq (N := 2 * vn v) (t := fun _ => true) iC iM lC lM hk (fun _ _ _ => rfl)
    simp only [Bool.and_true] at h
    exact h
  have e2 : mTu (lbC v (vn v)) (vn v) (2 * vn v) = mTf (lbM v (vn v)) (vn v) (2 * vn v) := mT_eq iM lM hk
  have e3 : nOn (lbC v (vn v)) (vn v) (2 * vn v) = nOn (lbM v (vn v)) (vn v) (2 * vn v) := by
    have h := fix_eq (N := 2 * vn v) (t := fun c => nTu (lbC v (vn v)) (vn v) c == 1) iC iM lC lM hk (fun c d e => by rw [nTu_same e])
    have h2 : (fun c => lbM v (vn v) c == c && nTu (lbC v (vn v)) (vn v) c == 1) = (fun c => lbM v (vn v) c == c && nTu (lbM v (vn v)) (vn v) c == 1) := by
      funext c
      rw [nTu_ker hk c]
    rw [h2] at h
    exact h
  rw [e1, e2, e3]
theorem pr_ground (hJ : JJ X h1 h2 h3 h4) {w : Int} (hw : i32r w) (hk : ∀ (r : Int) (X1 : Mm), Aft l g mX8_ground [vR 44, vI w] (vI r) X1 → K0 (vI r) X1) : Ct l g mX7_ground [vR 0, vI w] X K0 := by
  obtain ⟨⟨c1, c2, c3, c4⟩, hM, p1, p2, p3, p4⟩ := id hJ
  by_cases hn : vn h2.1 = 0
  · obtain ⟨w2, w0, wC⟩ := c2.any hn
    refine ct_X7_ground (v := w2) hw wC (fun z => absurd w0 z) (fun _ => hk (-1) X (fun K hK => ?_)) (fun z => absurd w0 z)
    obtain ⟨u, u0, uM⟩ := hM.2.1.any hn
    exact ct_X8_ground (v := u) hw uM (fun z => absurd u0 z) (fun _ => hK X _ _ _ _ hJ) (fun z => absurd u0 z)
  · have hv := (p2 hn).1
    refine ct_X7_ground (v := h2.1) hw (c2.2 hn).1 (fun _ => hv) (fun q => hk (-1) X (fun K hK => ?_)) (fun _ q X1 f1 => hk _ X1 (fun K hK => ?_))
    · exact ct_X8_ground (v := h2.1) hw (hM.2.1.2 hn).1 (fun _ => hv) (fun _ => hK X _ _ _ _ hJ) (fun _ y => by omega)
    · have hM1 := hM.up (X1 := X1) (fun d j w => f1 d j (by omega) (by omega))
      exact ct_X8_ground (v := h2.1) hw (hM1.2.1.2 hn).1 (fun _ => hv) (fun y => by omega) (fun _ _ X2 f2 => kE (hK X2 _ _ _ _ (hJ.fr (fun d j q => f1 d j (by omega) (by omega)) (fun d j q => f2 d j (by omega)) (fun j q => f2 44 j (by omega)) (fun d j q => f2 d j (by omega)))) (gd_eq hv w))
end
