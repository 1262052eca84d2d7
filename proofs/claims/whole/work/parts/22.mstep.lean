theorem mvM_stp {X X4 : Mm} {v : Mv} {w x : Nat} {f h : Nat → Nat} (hX : MvM X v) (e5 : X4 44 5 = X 44 5) (e0 : X4 44 0 = X 44 0) (eA : ∀ k, k < vn v → X4 48 k = if k = w then vA v w - vA v x else vA v k) (eB : ∀ k, k < vn v → X4 49 k = if k = w then vB v w - vB v x else vB v k) (eU : Rw X4 50 (vn v) f) (eD : Rw X4 51 (vn v) h) (eT : ∀ i j, i < vn v → j < vn v → X4 52 (8 * i + j) = if j = x then vT v i x + vT v i w else vT v i j) : MvM X4 (stp v w x f h) := ⟨e5.trans hX.1, e0.trans hX.2.1, fun k hk => ⟨eA k hk, eB k hk, eU k hk, eD k hk⟩, eT⟩
theorem tB_s {X X2 : Mm} {v : Mv} {w x i : Nat} {q : Int} (hn : vn v ≤ 8) (hx : x < vn v) (hi : i < vn v) (hfr : ∀ d j, d ≠ 52 → X2 d j = X d j) (hT : ∀ a b, a < vn v → b < vn v → X2 52 (8 * a + b) = if a < i ∧ b = x then vT v a x + vT v a w else vT v a b) (hq : q = vT v i x + vT v i w) : (∀ d j, d ≠ 52 → (st2 X2 52 (8 * i + x) q) d j = X d j) ∧ ∀ a b, a < vn v → b < vn v → (st2 X2 52 (8 * i + x) q) 52 (8 * a + b) = if a < i + 1 ∧ b = x then vT v a x + vT v a w else vT v a b := by
  refine ⟨fun d j hd => by simp only [st2, if_neg hd]; exact hfr d j hd, fun a b ha hb => ?_⟩
  by_cases c1 : a = i ∧ b = x
  · obtain ⟨rfl, rfl⟩ := c1
    have z : st2 X2 52 (8 * a + b) q 52 (8 * a + b) = q := by simp [st2]
    rw [z, if_pos (by omega)]
    exact hq
  · have z : 8 * a + b ≠ 8 * i + x := by omega
    simp only [st2, if_true, if_neg z]
    rw [hT a b ha hb]
    by_cases c2 : a < i ∧ b = x
    · rw [if_pos c2, if_pos (by omega)]
    · rw [if_neg c2, if_neg (by omega)]
set_option maxRecDepth 100000 in
set_option maxHeartbeats 8000000 in
theorem ct_X8_step {l : Launch} {g : Geo} {X : Mm} {K : AV → Mm → Prop} {v : Mv} {a b : Int} (hX : MvM X v) (hv : vn v ≠ 0 → Vd v) (ht : X 44 13 = 0 ∨ X 44 13 = 1) (hpt : X 44 13 = 1 → X 44 14 = a ∧ X 44 15 = b ∧ pB a b ∧ (vr v = 0 → b = 0)) (h0 : vn v = 0 → K (vI (-1)) X) (h1 : vn v ≠ 0 → stR v < 0 → K (vI (stR v)) X) (h2 : vn v ≠ 0 → 0 ≤ stR v → ∀ X2, MvM X2 (stN v) → X2 44 11 = X 44 11 + 1 → X2 44 12 = X 44 12 + stR v → ((X 44 13 = 1 ∧ onL (stN v) a b) → X2 44 13 = 1) → (¬ (X 44 13 = 1 ∧ onL (stN v) a b) → X2 44 13 = 0) → (∀ j, j ≠ 11 → j ≠ 12 → j ≠ 13 → X2 44 j = X 44 j) → (∀ d j, d ≠ 44 → (d < 48 ∨ 52 < d) → X2 d j = X d j) → K (vI (stR v)) X2) : Ct l g mX8_step [vR 44] X K := by
  refine enter (by decide) (Nat.le_of_ble_eq_true rfl) (fun κ => ?_)
  have x1 := hX.1
  have x2 := hX.2.1
  rcases Nat.eq_zero_or_pos (vn v) with hz | hz
  · have hz2 := hz
    refine g_aload_n rfl dX8_step_0 ?_
    refine gf_X8_94 rfl (by first | rfl | assumption) dX8_step_1 ?_
    refine g_if_ne (t := 9) dX8_step_4 (by decide) (by first | omega | (simp [st2]; done) | (simp [st2]; omega)) (fun b4 => ?_) (fun b4 => ?_)
    · exfalso; omega
    · refine g_iconst dX8_step_7 ?_
      refine g_ireturn rfl dX8_step_8 ?_
      exact h0 hz
  · have hv := hv (by omega)
    have hn8 := hv.2.1
    have hn2 := hv.1
    have hr := hv.2.2.1
    have hl := lu_lt hv
    have eu : X 50 (vn v - 1) = (lu v : Int) := (hX.2.2.1 _ (by omega)).2.2.1
    have ed : X 51 (vn v - 1) = (ld v : Int) := (hX.2.2.1 _ (by omega)).2.2.2
    have xu := hX.2.2.1 _ hl.1
    have xd := hX.2.2.1 _ hl.2
    have vU := hv.2.2.2.1 _ hl.1
    have vD := hv.2.2.2.1 _ hl.2
    have hsg := sgn_neg (r := vr v) (a := vA v (lu v) - vA v (ld v)) (b := vB v (lu v) - vB v (ld v)) hr (fun e => by rw [vU.2.2.1 e, vD.2.2.1 e]; rfl) (by omega) (by omega)
    rw [val_sub] at hsg
    obtain ⟨s, es⟩ : ∃ s, s = sgn (vr v) (vA v (lu v) - vA v (ld v)) (vB v (lu v) - vB v (ld v)) := ⟨_, rfl⟩
    rw [← es] at hsg
    have lU : val (vr v) (vA v (lu v)) (vB v (lu v)) = vL v (lu v) := rfl
    have lD : val (vr v) (vA v (ld v)) (vB v (ld v)) = vL v (ld v) := rfl
    rw [lU, lD] at hsg
    by_cases c0 : lu v = ld v
    · have e2 := stR_2 c0
      refine g_aload_n rfl dX8_step_0 ?_
      refine gf_X8_94 rfl (by first | rfl | assumption) dX8_step_1 ?_
      refine g_if_ne (t := 9) dX8_step_4 (by decide) (by first | omega | (simp [st2]; done) | (simp [st2]; omega)) (fun b4 => ?_) (fun b4 => ?_)
      · refine g_aload_n rfl dX8_step_9 ?_
        refine gf_X8_26 (c2 := 50) rfl rfl (by first | rfl | assumption) dX8_step_10 ?_
        refine g_aload_n rfl dX8_step_13 ?_
        refine gf_X8_94 rfl (by first | rfl | assumption) dX8_step_14 ?_
        refine g_iconst dX8_step_17 ?_
        refine g_isub dX8_step_18 ?_
        refine g_iald (n := 8) (vn v - 1) (by first | rfl | assumption) (by first | rfl | assumption) (by omega) (by first | omega | (simp [st2]; done) | (simp [st2]; omega)) (by first | omega | (simp [st2]; done) | (simp [st2]; omega)) dX8_step_19 ?_
        refine g_istore_n (by decide) dX8_step_20 ?_
        refine g_aload_n rfl dX8_step_21 ?_
        refine gf_X8_29 (c2 := 51) rfl rfl (by first | rfl | assumption) dX8_step_22 ?_
        refine g_aload_n rfl dX8_step_25 ?_
        refine gf_X8_94 rfl (by first | rfl | assumption) dX8_step_26 ?_
        refine g_iconst dX8_step_29 ?_
        refine g_isub dX8_step_30 ?_
        refine g_iald (n := 8) (vn v - 1) (by first | rfl | assumption) (by first | rfl | assumption) (by omega) (by first | omega | (simp [st2]; done) | (simp [st2]; omega)) (by first | omega | (simp [st2]; done) | (simp [st2]; omega)) dX8_step_31 ?_
        refine g_istore_n (by decide) dX8_step_32 ?_
        rw [eu, ed]
        refine g_iload_n rfl dX8_step_33 ?_
        refine g_iload_n rfl dX8_step_34 ?_
        refine g_icmp_ne (t := 41) dX8_step_35 (by decide) (by first | omega | (simp [st2]; done) | (simp [st2]; omega)) (by first | omega | (simp [st2]; done) | (simp [st2]; omega)) (fun b35 => ?_) (fun b35 => ?_)
        · exfalso; omega
        · refine g_bipush (by decide) dX8_step_38 ?_
          refine g_ireturn rfl dX8_step_40 ?_
          exact kE (h1 (by omega) (by omega)) e2
      · exfalso; omega
    · rcases Int.lt_trichotomy (vL v (ld v)) (vL v (lu v)) with cc | cc | cc
      · have hW : s = 1 := by omega
        have hpc := hv.2.2.2.2.2.1
        have hpo := hv.2.2.2.2.1
        have hne : vu v (vn v - 1) ≠ lu v := fun e => c0 e.symm
        have hpl := last_ne hpc hl.1 hne
        have xw := hX.2.2.1 _ hl.1
        have xx := hX.2.2.1 _ hl.2
        have vW := hv.2.2.2.1 _ hl.1
        have vX := hv.2.2.2.1 _ hl.2
        have hwn := hl.1
        have hxn := hl.2
        have fin : ¬ spent v (lu v) (ld v) → ∀ X4 X7 : Mm, (∀ t : Int, MvM X4 (stU v)) → (∀ d j, d ≠ 44 → (d < 48 ∨ 52 < d) → X4 d j = X d j) → (∀ j, X4 44 j = X 44 j) → (∀ d j, d ≠ 44 → X7 d j = X4 d j) → X7 44 11 = X 44 11 + 1 → X7 44 12 = X 44 12 + 1 → ((X 44 13 = 1 ∧ onL (stU v) a b) → X7 44 13 = 1) → (¬ (X 44 13 = 1 ∧ onL (stU v) a b) → X7 44 13 = 0) → (∀ j, j ≠ 11 → j ≠ 12 → j ≠ 13 → X7 44 j = X4 44 j) → K (vI 1) X7 := by
          intro hs X4 X7 hM f1 f2 f3 e11 e12 e13 e13n f4
          obtain ⟨er, en⟩ := stR_u1 c0 cc hs
          have hM7 : MvM X7 (stN v) := by
            rw [en]
            obtain ⟨m1, m2, m3, m4⟩ := hM 0
            refine ⟨by rw [f4 5 (by omega) (by omega) (by omega)]; exact m1, by rw [f4 0 (by omega) (by omega) (by omega)]; exact m2, fun k hk => ?_, fun i j hi hj => ?_⟩
            · rw [f3 48 k (by decide), f3 49 k (by decide), f3 50 k (by decide), f3 51 k (by decide)]
              exact m3 k hk
            · rw [f3 52 _ (by decide)]
              exact m4 i j hi hj
          refine kE (h2 (by omega) (by omega) X7 hM7 e11 (by rw [er]; exact e12) (by rw [en]; exact e13) (by rw [en]; exact e13n) (fun j j1 j2 j3 => by rw [f4 j j1 j2 j3]; exact f2 j) (fun d j hd hd2 => by rw [f3 d j hd]; exact f1 d j hd hd2)) er
        have tail : ¬ spent v (lu v) (ld v) → ∀ X2 : Mm, (∀ d j, d ≠ 52 → X2 d j = X d j) → (∀ i j, i < vn v → j < vn v → X2 52 (8 * i + j) = if j = ld v then vT v i (ld v) + vT v i (lu v) else vT v i j) → G l g mX8_step κ K 262 [(0, vR 44), (3, vI s), (4, vI (lu v : Int)), (5, vI (ld v : Int)), (6, vJ (vA v (lu v) - vA v (ld v))), (8, vJ (vB v (lu v) - vB v (ld v)))] [] X2 := by
          intro hs X2 hfr hT
          have hvN : Vd (stU v) := by
            have hh := stN_ok hv (by rw [(stR_u1 c0 cc hs).1]; omega)
            rw [(stR_u1 c0 cc hs).2] at hh
            exact hh.1
          clear hsg h0 h1 h2 cc c0 hne lU lD
          refine g_aload_n rfl dX8_step_262 ?_
          refine gf_X8_19 (c2 := 48) rfl rfl (by first | rfl | assumption) dX8_step_263 ?_
          refine g_iload rfl dX8_step_266 ?_
          refine g_lload rfl dX8_step_268 ?_
          refine g_last (n := 8) (lu v) (by first | rfl | assumption) (by first | rfl | assumption) (by omega) (by first | omega | (simp [st2]; done) | (simp [st2]; omega)) (by first | omega | (simp [st2]; done) | (simp [st2]; omega)) dX8_step_270 ?_
          refine g_aload_n rfl dX8_step_271 ?_
          refine gf_X8_23 (c2 := 49) rfl rfl (by first | rfl | assumption) dX8_step_272 ?_
          refine g_iload rfl dX8_step_275 ?_
          refine g_lload rfl dX8_step_277 ?_
          refine g_last (n := 8) (lu v) (by first | rfl | assumption) (by first | rfl | assumption) (by omega) (by first | omega | (simp [st2]; done) | (simp [st2]; omega)) (by first | omega | (simp [st2]; done) | (simp [st2]; omega)) dX8_step_279 ?_
          refine g_aload_n rfl dX8_step_280 ?_
          refine g_iload_n rfl dX8_step_281 ?_
          refine g_if_le (t := 292) dX8_step_282 (by decide) (by first | omega | (simp [st2]; done) | (simp [st2]; omega)) (fun b282 => ?_) (fun b282 => ?_)
          · exfalso; omega
          · refine g_aload_n rfl dX8_step_285 ?_
            refine gf_X8_29 (c2 := 51) rfl rfl (by first | rfl | assumption) dX8_step_286 ?_
            refine g_goto (t := 296) dX8_step_289 (by decide) ?_
            refine g_iload rfl dX8_step_296 ?_
            refine g_iload rfl dX8_step_298 ?_
            refine g_cv3v (M2 := mX8_brings) (ci := 8) dX8_step_300 ml_RX8_171 kX8_brings rfl (by first | rfl | assumption) (by decide) rfl (by unfold Rm; decide) (Nat.le_of_ble_eq_true rfl) (ct_X8_brings (n := vn v) (f := vu v) (w := lu v) (k := ld v) (by show X2 44 5 = _; rw [hfr 44 5 (by decide)]; exact x1) (by omega) hpc rfl rfl (by decide) (fun j hj => by show X2 51 j = _; rw [hfr 51 j (by decide)]; exact (hX.2.2.1 j hj).2.2.2) hwn hpl (fun X4 f4 r4 => ?_))
            have g4 : ∀ d j, d ≠ 48 → d ≠ 49 → d ≠ 52 → d ≠ 51 → X4 d j = X d j := fun d j z1 z2 z3 z4 => by
              rw [f4 d j z4]
              simp only [st2, if_neg z1, if_neg z2]
              exact hfr d j z3
            have hM4 : ∀ t : Int, MvM X4 (stU v) := fun _ => mvM_stp hX (g4 44 5 (by decide) (by decide) (by decide) (by decide)) (g4 44 0 (by decide) (by decide) (by decide) (by decide)) (fun k hk => by
                rw [f4 48 k (by decide)]
                by_cases z : k = lu v
                · subst z
                  simp [st2]
                · simp [st2, z]
                  rw [hfr 48 k (by decide)]
                  exact (hX.2.2.1 k hk).1) (fun k hk => by
                rw [f4 49 k (by decide)]
                by_cases z : k = lu v
                · subst z
                  simp [st2]
                · simp [st2, z]
                  rw [hfr 49 k (by decide)]
                  exact (hX.2.2.1 k hk).2.1) (fun k hk => by
                rw [g4 50 k (by decide) (by decide) (by decide) (by decide)]
                exact (hX.2.2.1 k hk).2.2.1) r4 (fun i j hi hj => by
                rw [f4 52 _ (by decide)]
                exact hT i j hi hj)
            have q4 : ∀ d j, d ≠ 44 → (d < 48 ∨ 52 < d) → X4 d j = X d j := fun d j z1 z2 => g4 d j (by omega) (by omega) (by omega) (by omega)
            have p4 : ∀ j, X4 44 j = X 44 j := fun j => g4 44 j (by decide) (by decide) (by decide) (by decide)
            have p11 := p4 11
            have p12 := p4 12
            have p13 := p4 13
            have p14 := p4 14
            have p15 := p4 15
            have hMs : ∀ c : Int, MvM (st2 X4 44 11 c) (stU v) := fun c => by
              obtain ⟨m1, m2, m3, m4⟩ := hM4 0
              exact ⟨m1, m2, m3, m4⟩
            have hMs2 : ∀ c d : Int, MvM (st2 (st2 X4 44 11 c) 44 12 d) (stU v) := fun c d => by
              obtain ⟨m1, m2, m3, m4⟩ := hM4 0
              exact ⟨m1, m2, m3, m4⟩
            refine g_aload_n rfl dX8_step_303 ?_
            refine g_dup rfl dX8_step_304 ?_
            refine gf_X8_101 rfl (by first | rfl | assumption) dX8_step_305 ?_
            refine g_iconst dX8_step_308 ?_
            refine g_iadd dX8_step_309 ?_
            refine pf_X8_101 rfl (by first | rfl | assumption) dX8_step_310 ?_
            refine g_iload_n rfl dX8_step_313 ?_
            refine g_if_le (t := 327) dX8_step_314 (by decide) (by first | omega | (simp [st2]; done) | (simp [st2]; omega)) (fun b314 => ?_) (fun b314 => ?_)
            · exfalso; omega
            · refine g_aload_n rfl dX8_step_317 ?_
              refine g_dup rfl dX8_step_318 ?_
              refine gf_X8_104 rfl (by first | rfl | assumption) dX8_step_319 ?_
              refine g_iconst dX8_step_322 ?_
              refine g_iadd dX8_step_323 ?_
              refine pf_X8_104 rfl (by first | rfl | assumption) dX8_step_324 ?_
              refine g_aload_n rfl dX8_step_327 ?_
              refine gf_X8_97 rfl (by first | rfl | assumption) dX8_step_328 ?_
              refine g_if_eq (t := 354) dX8_step_331 (by decide) (by show -2147483648 ≤ X4 44 13 ∧ X4 44 13 < 2147483648; omega) (fun b331 => ?_) (fun b331 => ?_)
              · have b332 : X4 44 13 = 0 := b331
                refine g_iload_n rfl dX8_step_354 ?_
                refine g_if_le (t := 362) dX8_step_355 (by decide) (by first | omega | (simp [st2]; done) | (simp [st2]; omega)) (fun b355 => ?_) (fun b355 => ?_)
                · exfalso; omega
                · refine g_iconst dX8_step_358 ?_
                  refine g_goto (t := 363) dX8_step_359 (by decide) ?_
                  refine g_ireturn rfl dX8_step_363 ?_
                  refine fin hs X4 _ hM4 q4 p4 ?_ ?_ ?_ ?_ ?_ ?_
                  · intro d j hd
                    simp [st2, hd]
                  · simp [st2]
                    omega
                  · simp [st2]
                    omega
                  · intro q
                    first | exact absurd q.2 hon | (simp [st2]; omega)
                  · intro q
                    first | rfl | exact absurd (And.intro (by omega) hon) q | (simp [st2]; omega)
                  · intro j z1 z2 z3
                    simp [st2, z1, z2, z3]
              · have b332 : ¬ X4 44 13 = 0 := b331
                obtain ⟨ea, eb, hpb, hr0⟩ := hpt (by omega)
                refine g_aload_n rfl dX8_step_334 ?_
                refine g_aload_n rfl dX8_step_335 ?_
                refine gf_X8_157 rfl (by first | rfl | assumption) dX8_step_336 ?_
                refine g_aload_n rfl dX8_step_339 ?_
                refine gf_X8_160 rfl (by first | rfl | assumption) dX8_step_340 ?_
                show G l g mX8_step κ K 343 _ [vJ (X4 44 15), vJ (X4 44 14), vR 44] _
                rw [p14, p15, ea, eb]
                refine g_cv2 (M2 := mX8_isOnLine) (ci := 8) dX8_step_343 ml_RX8_154 kX8_isOnLine (by decide) (by first | rfl | assumption) (by decide) rfl (by unfold Rm; decide) (Nat.le_of_ble_eq_true rfl) (ct_X8_isOnLine (v := stU v) (by first | exact hMs2 _ _ | exact hMs _) hvN hpb hr0 (fun hon => ?_) (fun hon => ?_))
                · refine g_if_ne (t := 354) dX8_step_346 (by decide) (by first | omega | (simp [st2]; done) | (simp [st2]; omega)) (fun b346 => ?_) (fun b346 => ?_)
                  · refine g_iload_n rfl dX8_step_354 ?_
                    refine g_if_le (t := 362) dX8_step_355 (by decide) (by first | omega | (simp [st2]; done) | (simp [st2]; omega)) (fun b355 => ?_) (fun b355 => ?_)
                    · exfalso; omega
                    · refine g_iconst dX8_step_358 ?_
                      refine g_goto (t := 363) dX8_step_359 (by decide) ?_
                      refine g_ireturn rfl dX8_step_363 ?_
                      refine fin hs X4 _ hM4 q4 p4 ?_ ?_ ?_ ?_ ?_ ?_
                      · intro d j hd
                        simp [st2, hd]
                      · simp [st2]
                        omega
                      · simp [st2]
                        omega
                      · intro q
                        first | exact absurd q.2 hon | (simp [st2]; omega)
                      · intro q
                        first | rfl | exact absurd (And.intro (by omega) hon) q | (simp [st2]; omega)
                      · intro j z1 z2 z3
                        simp [st2, z1, z2, z3]
                  · exact absurd b346 (by decide)
                · refine g_if_ne (t := 354) dX8_step_346 (by decide) (by first | omega | (simp [st2]; done) | (simp [st2]; omega)) (fun b346 => ?_) (fun b346 => ?_)
                  · exact absurd rfl b346
                  · refine g_aload_n rfl dX8_step_349 ?_
                    refine g_iconst dX8_step_350 ?_
                    refine pf_X8_97 (by omega) rfl (by first | rfl | assumption) dX8_step_351 ?_
                    refine g_iload_n rfl dX8_step_354 ?_
                    refine g_if_le (t := 362) dX8_step_355 (by decide) (by first | omega | (simp [st2]; done) | (simp [st2]; omega)) (fun b355 => ?_) (fun b355 => ?_)
                    · exfalso; omega
                    · refine g_iconst dX8_step_358 ?_
                      refine g_goto (t := 363) dX8_step_359 (by decide) ?_
                      refine g_ireturn rfl dX8_step_363 ?_
                      refine fin hs X4 _ hM4 q4 p4 ?_ ?_ ?_ ?_ ?_ ?_
                      · intro d j hd
                        simp [st2, hd]
                      · simp [st2]
                        omega
                      · simp [st2]
                        omega
                      · intro q
                        first | exact absurd q.2 hon | (simp [st2]; omega)
                      · intro q
                        first | rfl | exact absurd (And.intro (by omega) hon) q | (simp [st2]; omega)
                      · intro j z1 z2 z3
                        simp [st2, z1, z2, z3]
        have loopB : ¬ spent v (lu v) (ld v) → ∀ i : Nat, i ≤ vn v → ∀ X2 : Mm, (∀ d j, d ≠ 52 → X2 d j = X d j) → (∀ p q, p < vn v → q < vn v → X2 52 (8 * p + q) = if p < i ∧ q = ld v then vT v p (ld v) + vT v p (lu v) else vT v p q) → G l g mX8_step κ K 218 [(0, vR 44), (3, vI s), (4, vI (lu v : Int)), (5, vI (ld v : Int)), (6, vJ (vA v (lu v) - vA v (ld v))), (8, vJ (vB v (lu v) - vB v (ld v))), (10, vI (i : Int))] [] X2 := by
          intro hs
          refine upTo (vn v) ?_
          intro i hi ih X2 hfr hT
          have z5 : X2 44 5 = (vn v : Int) := by rw [hfr 44 5 (by decide)]; exact x1
          refine g_iload rfl dX8_step_218 ?_
          refine g_aload_n rfl dX8_step_220 ?_
          refine gf_X8_94 rfl (by first | rfl | assumption) dX8_step_221 ?_
          refine g_icmp_ge (t := 262) dX8_step_224 (by decide) (by first | omega | (simp [st2]; done) | (simp [st2]; omega)) (by first | omega | (simp [st2]; done) | (simp [st2]; omega)) (fun b224 => ?_) (fun b224 => ?_)
          · refine g_subl [(0, vR 44), (3, vI s), (4, vI (lu v : Int)), (5, vI (ld v : Int)), (6, vJ (vA v (lu v) - vA v (ld v))), (8, vJ (vB v (lu v) - vB v (ld v)))] rfl ?_
            refine tail hs X2 hfr (fun p q hp hq => ?_)
            rw [hT p q hp hq]
            by_cases z : q = ld v
            · rw [if_pos ⟨by omega, z⟩, if_pos z]
            · rw [if_neg (fun w => z w.2), if_neg z]
          · refine g_aload_n rfl dX8_step_227 ?_
            refine gf_X8_32 (c2 := 52) rfl rfl (by first | rfl | assumption) dX8_step_228 ?_
            refine g_bipush (by decide) dX8_step_231 ?_
            refine g_iload rfl dX8_step_233 ?_
            refine g_imul dX8_step_235 ?_
            refine g_iload rfl dX8_step_236 ?_
            refine g_iadd dX8_step_238 ?_
            refine g_dup2 rfl rfl dX8_step_239 ?_
            refine g_lald (n := 64) (8 * i + ld v) (by first | rfl | assumption) (by first | rfl | assumption) (by omega) (by first | omega | (simp [st2]; done) | (simp [st2]; omega)) (by first | omega | (simp [st2]; done) | (simp [st2]; omega)) dX8_step_240 ?_
            refine g_aload_n rfl dX8_step_241 ?_
            refine gf_X8_32 (c2 := 52) rfl rfl (by first | rfl | assumption) dX8_step_242 ?_
            refine g_bipush (by decide) dX8_step_245 ?_
            refine g_iload rfl dX8_step_247 ?_
            refine g_imul dX8_step_249 ?_
            refine g_iload rfl dX8_step_250 ?_
            refine g_iadd dX8_step_252 ?_
            refine g_lald (n := 64) (8 * i + lu v) (by first | rfl | assumption) (by first | rfl | assumption) (by omega) (by first | omega | (simp [st2]; done) | (simp [st2]; omega)) (by first | omega | (simp [st2]; done) | (simp [st2]; omega)) dX8_step_253 ?_
            refine g_ladd dX8_step_254 ?_
            refine g_last (n := 64) (8 * i + ld v) (by first | rfl | assumption) (by first | rfl | assumption) (by omega) (by first | omega | (simp [st2]; done) | (simp [st2]; omega)) (by first | omega | (simp [st2]; done) | (simp [st2]; omega)) dX8_step_255 ?_
            refine g_iinc rfl (by decide) dX8_step_256 ?_
            refine g_goto (t := 218) dX8_step_259 (by decide) ?_
            refine g_subl [(0, vR 44), (3, vI s), (4, vI (lu v : Int)), (5, vI (ld v : Int)), (6, vJ (vA v (lu v) - vA v (ld v))), (8, vJ (vB v (lu v) - vB v (ld v))), (10, vI ((i + 1 : Nat) : Int))] rfl ?_
            have hT1 := hT i (ld v) (by omega) hxn
            have hT2 := hT i (lu v) (by omega) hwn
            rw [if_neg (by omega)] at hT1 hT2
            obtain ⟨n1, n2⟩ := tB_s (w := lu v) hn8 hxn (by omega) hfr hT (show X2 52 (8 * i + ld v) + X2 52 (8 * i + lu v) = _ by rw [hT1, hT2])
            exact ih (i + 1) (by omega) (by omega) _ n1 n2
        have loopA : ((-16384 ≤ vA v (lu v) - vA v (ld v) ∧ vA v (lu v) - vA v (ld v) ≤ 16384) ∧ (-16384 ≤ vB v (lu v) - vB v (ld v) ∧ vB v (lu v) - vB v (ld v) ≤ 16384)) → ∀ i : Nat, i ≤ vn v → (∀ p, p < i → vT v p (ld v) + vT v p (lu v) ≤ 1099511627776) → G l g mX8_step κ K 163 [(0, vR 44), (3, vI s), (4, vI (lu v : Int)), (5, vI (ld v : Int)), (6, vJ (vA v (lu v) - vA v (ld v))), (8, vJ (vB v (lu v) - vB v (ld v))), (10, vI (i : Int))] [] X := by
          intro hab
          refine upTo (vn v) ?_
          intro i hi ih hlt
          refine g_iload rfl dX8_step_163 ?_
          refine g_aload_n rfl dX8_step_165 ?_
          refine gf_X8_94 rfl (by first | rfl | assumption) dX8_step_166 ?_
          refine g_icmp_ge (t := 215) dX8_step_169 (by decide) (by first | omega | (simp [st2]; done) | (simp [st2]; omega)) (by first | omega | (simp [st2]; done) | (simp [st2]; omega)) (fun b169 => ?_) (fun b169 => ?_)
          · refine g_iconst dX8_step_215 ?_
            refine g_istore (by decide) dX8_step_216 ?_
            refine g_subl [(0, vR 44), (3, vI s), (4, vI (lu v : Int)), (5, vI (ld v : Int)), (6, vJ (vA v (lu v) - vA v (ld v))), (8, vJ (vB v (lu v) - vB v (ld v))), (10, vI ((0 : Nat) : Int))] rfl ?_
            refine loopB (fun q => ?_) 0 (by omega) X (fun _ _ _ => rfl) (fun p q hp hq => by rw [if_neg (by omega)]; exact hX.2.2.2 p q hp hq)
            rcases q with q | ⟨p, hp, q⟩
            · exact q hab
            · have := hlt p (by omega)
              omega
          · have t1 := hX.2.2.2 i (ld v) (by omega) hxn
            have t2 := hX.2.2.2 i (lu v) (by omega) hwn
            have b1 := hv.2.2.2.2.2.2 i (ld v) (by omega) hxn
            have b2 := hv.2.2.2.2.2.2 i (lu v) (by omega) hwn
            refine g_aload_n rfl dX8_step_172 ?_
            refine gf_X8_32 (c2 := 52) rfl rfl (by first | rfl | assumption) dX8_step_173 ?_
            refine g_bipush (by decide) dX8_step_176 ?_
            refine g_iload rfl dX8_step_178 ?_
            refine g_imul dX8_step_180 ?_
            refine g_iload rfl dX8_step_181 ?_
            refine g_iadd dX8_step_183 ?_
            refine g_lald (n := 64) (8 * i + ld v) (by first | rfl | assumption) (by first | rfl | assumption) (by omega) (by first | omega | (simp [st2]; done) | (simp [st2]; omega)) (by first | omega | (simp [st2]; done) | (simp [st2]; omega)) dX8_step_184 ?_
            refine g_aload_n rfl dX8_step_185 ?_
            refine gf_X8_32 (c2 := 52) rfl rfl (by first | rfl | assumption) dX8_step_186 ?_
            refine g_bipush (by decide) dX8_step_189 ?_
            refine g_iload rfl dX8_step_191 ?_
            refine g_imul dX8_step_193 ?_
            refine g_iload rfl dX8_step_194 ?_
            refine g_iadd dX8_step_196 ?_
            refine g_lald (n := 64) (8 * i + lu v) (by first | rfl | assumption) (by first | rfl | assumption) (by omega) (by first | omega | (simp [st2]; done) | (simp [st2]; omega)) (by first | omega | (simp [st2]; done) | (simp [st2]; omega)) dX8_step_197 ?_
            refine g_ladd dX8_step_198 ?_
            refine g_ldc2 (n := (1099511627776)) kc_RX8_169 dX8_step_199 ?_
            refine g_lle (t := 209) dX8_step_202 dX8_step_203 (by decide) (by first | omega | (simp [st2]; done) | (simp [st2]; omega)) (by first | omega | (simp [st2]; done) | (simp [st2]; omega)) (fun b202 => ?_) (fun b202 => ?_)
            · refine g_iinc rfl (by decide) dX8_step_209 ?_
              refine g_goto (t := 163) dX8_step_212 (by decide) ?_
              refine g_subl [(0, vR 44), (3, vI s), (4, vI (lu v : Int)), (5, vI (ld v : Int)), (6, vJ (vA v (lu v) - vA v (ld v))), (8, vJ (vB v (lu v) - vB v (ld v))), (10, vI ((i + 1 : Nat) : Int))] rfl ?_
              refine ih (i + 1) (by omega) (by omega) (fun p hp => ?_)
              rcases Nat.lt_or_ge p i with z | z
              · exact hlt p z
              · rw [show p = i by omega]; omega
            · refine g_bipush (by decide) dX8_step_206 ?_
              refine g_ireturn rfl dX8_step_208 ?_
              exact kE (h1 (by omega) (by rw [stR_u4 c0 cc (Or.inr ⟨i, by omega, by omega⟩)]; omega)) (stR_u4 c0 cc (Or.inr ⟨i, by omega, by omega⟩))
        refine g_aload_n rfl dX8_step_0 ?_
        refine gf_X8_94 rfl (by first | rfl | assumption) dX8_step_1 ?_
        refine g_if_ne (t := 9) dX8_step_4 (by decide) (by first | omega | (simp [st2]; done) | (simp [st2]; omega)) (fun b4 => ?_) (fun b4 => ?_)
        · refine g_aload_n rfl dX8_step_9 ?_
          refine gf_X8_26 (c2 := 50) rfl rfl (by first | rfl | assumption) dX8_step_10 ?_
          refine g_aload_n rfl dX8_step_13 ?_
          refine gf_X8_94 rfl (by first | rfl | assumption) dX8_step_14 ?_
          refine g_iconst dX8_step_17 ?_
          refine g_isub dX8_step_18 ?_
          refine g_iald (n := 8) (vn v - 1) (by first | rfl | assumption) (by first | rfl | assumption) (by omega) (by first | omega | (simp [st2]; done) | (simp [st2]; omega)) (by first | omega | (simp [st2]; done) | (simp [st2]; omega)) dX8_step_19 ?_
          rw [eu]
          refine g_istore_n (by decide) dX8_step_20 ?_
          refine g_aload_n rfl dX8_step_21 ?_
          refine gf_X8_29 (c2 := 51) rfl rfl (by first | rfl | assumption) dX8_step_22 ?_
          refine g_aload_n rfl dX8_step_25 ?_
          refine gf_X8_94 rfl (by first | rfl | assumption) dX8_step_26 ?_
          refine g_iconst dX8_step_29 ?_
          refine g_isub dX8_step_30 ?_
          refine g_iald (n := 8) (vn v - 1) (by first | rfl | assumption) (by first | rfl | assumption) (by omega) (by first | omega | (simp [st2]; done) | (simp [st2]; omega)) (by first | omega | (simp [st2]; done) | (simp [st2]; omega)) dX8_step_31 ?_
          rw [ed]
          refine g_istore_n (by decide) dX8_step_32 ?_
          refine g_iload_n rfl dX8_step_33 ?_
          refine g_iload_n rfl dX8_step_34 ?_
          refine g_icmp_ne (t := 41) dX8_step_35 (by decide) (by first | omega | (simp [st2]; done) | (simp [st2]; omega)) (by first | omega | (simp [st2]; done) | (simp [st2]; omega)) (fun b35 => ?_) (fun b35 => ?_)
          · refine g_aload_n rfl dX8_step_41 ?_
            refine g_aload_n rfl dX8_step_42 ?_
            refine gf_X8_19 (c2 := 48) rfl rfl (by first | rfl | assumption) dX8_step_43 ?_
            refine g_iload_n rfl dX8_step_46 ?_
            refine g_lald (n := 8) (lu v) (by first | rfl | assumption) (by first | rfl | assumption) (by omega) (by first | omega | (simp [st2]; done) | (simp [st2]; omega)) (by first | omega | (simp [st2]; done) | (simp [st2]; omega)) dX8_step_47 ?_
            refine g_aload_n rfl dX8_step_48 ?_
            refine gf_X8_19 (c2 := 48) rfl rfl (by first | rfl | assumption) dX8_step_49 ?_
            refine g_iload_n rfl dX8_step_52 ?_
            refine g_lald (n := 8) (ld v) (by first | rfl | assumption) (by first | rfl | assumption) (by omega) (by first | omega | (simp [st2]; done) | (simp [st2]; omega)) (by first | omega | (simp [st2]; done) | (simp [st2]; omega)) dX8_step_53 ?_
            refine g_lsub dX8_step_54 ?_
            refine g_aload_n rfl dX8_step_55 ?_
            refine gf_X8_23 (c2 := 49) rfl rfl (by first | rfl | assumption) dX8_step_56 ?_
            refine g_iload_n rfl dX8_step_59 ?_
            refine g_lald (n := 8) (lu v) (by first | rfl | assumption) (by first | rfl | assumption) (by omega) (by first | omega | (simp [st2]; done) | (simp [st2]; omega)) (by first | omega | (simp [st2]; done) | (simp [st2]; omega)) dX8_step_60 ?_
            refine g_aload_n rfl dX8_step_61 ?_
            refine gf_X8_23 (c2 := 49) rfl rfl (by first | rfl | assumption) dX8_step_62 ?_
            refine g_iload_n rfl dX8_step_65 ?_
            refine g_lald (n := 8) (ld v) (by first | rfl | assumption) (by first | rfl | assumption) (by omega) (by first | omega | (simp [st2]; done) | (simp [st2]; omega)) (by first | omega | (simp [st2]; done) | (simp [st2]; omega)) dX8_step_66 ?_
            refine g_lsub dX8_step_67 ?_
            rw [xu.1, xu.2.1, xd.1, xd.2.1]
            refine g_cv2 (M2 := mX8_signOf) (ci := 8) dX8_step_68 ml_RX8_116 kX8_signOf (by decide) (by first | rfl | assumption) (by decide) rfl (by unfold Rm; decide) (Nat.le_of_ble_eq_true rfl) (ct_X8_signOf (by rw [x2]; exact hr) (by omega) (by omega) ?_)
            rw [x2, ← es]
            refine g_istore_n (by decide) dX8_step_71 ?_
            refine g_iload_n rfl dX8_step_72 ?_
            refine g_if_ne (t := 79) dX8_step_73 (by decide) (by first | omega | (simp [st2]; done) | (simp [st2]; omega)) (fun b73 => ?_) (fun b73 => ?_)
            · refine g_iload_n rfl dX8_step_79 ?_
              refine g_if_le (t := 87) dX8_step_80 (by decide) (by first | omega | (simp [st2]; done) | (simp [st2]; omega)) (fun b80 => ?_) (fun b80 => ?_)
              · exfalso; omega
              · refine g_iload_n rfl dX8_step_83 ?_
                refine g_goto (t := 88) dX8_step_84 (by decide) ?_
                refine g_istore (by decide) dX8_step_88 ?_
                refine g_iload_n rfl dX8_step_90 ?_
                refine g_if_le (t := 98) dX8_step_91 (by decide) (by first | omega | (simp [st2]; done) | (simp [st2]; omega)) (fun b91 => ?_) (fun b91 => ?_)
                · exfalso; omega
                · refine g_iload_n rfl dX8_step_94 ?_
                  refine g_goto (t := 99) dX8_step_95 (by decide) ?_
                  refine g_istore (by decide) dX8_step_99 ?_
                  refine g_aload_n rfl dX8_step_101 ?_
                  refine gf_X8_19 (c2 := 48) rfl rfl (by first | rfl | assumption) dX8_step_102 ?_
                  refine g_iload rfl dX8_step_105 ?_
                  refine g_lald (n := 8) (lu v) (by first | rfl | assumption) (by first | rfl | assumption) (by omega) (by first | omega | (simp [st2]; done) | (simp [st2]; omega)) (by first | omega | (simp [st2]; done) | (simp [st2]; omega)) dX8_step_107 ?_
                  refine g_aload_n rfl dX8_step_108 ?_
                  refine gf_X8_19 (c2 := 48) rfl rfl (by first | rfl | assumption) dX8_step_109 ?_
                  refine g_iload rfl dX8_step_112 ?_
                  refine g_lald (n := 8) (ld v) (by first | rfl | assumption) (by first | rfl | assumption) (by omega) (by first | omega | (simp [st2]; done) | (simp [st2]; omega)) (by first | omega | (simp [st2]; done) | (simp [st2]; omega)) dX8_step_114 ?_
                  refine g_lsub dX8_step_115 ?_
                  rw [xw.1, xx.1]
                  refine g_lstore (by decide) dX8_step_116 ?_
                  refine g_aload_n rfl dX8_step_118 ?_
                  refine gf_X8_23 (c2 := 49) rfl rfl (by first | rfl | assumption) dX8_step_119 ?_
                  refine g_iload rfl dX8_step_122 ?_
                  refine g_lald (n := 8) (lu v) (by first | rfl | assumption) (by first | rfl | assumption) (by omega) (by first | omega | (simp [st2]; done) | (simp [st2]; omega)) (by first | omega | (simp [st2]; done) | (simp [st2]; omega)) dX8_step_124 ?_
                  refine g_aload_n rfl dX8_step_125 ?_
                  refine gf_X8_23 (c2 := 49) rfl rfl (by first | rfl | assumption) dX8_step_126 ?_
                  refine g_iload rfl dX8_step_129 ?_
                  refine g_lald (n := 8) (ld v) (by first | rfl | assumption) (by first | rfl | assumption) (by omega) (by first | omega | (simp [st2]; done) | (simp [st2]; omega)) (by first | omega | (simp [st2]; done) | (simp [st2]; omega)) dX8_step_131 ?_
                  refine g_lsub dX8_step_132 ?_
                  rw [xw.2.1, xx.2.1]
                  refine g_lstore (by decide) dX8_step_133 ?_
                  refine g_lload rfl dX8_step_135 ?_
                  refine g_ldc2 (n := (16384)) kc_RX8_110 dX8_step_137 ?_
                  refine g_cs2 (M2 := mX8_isIn) dX8_step_140 ml_RX8_112 kX8_isIn rfl (by decide) (by unfold Rm; decide) (Nat.le_of_ble_eq_true rfl) (ct_X8_isIn (by omega) (by omega) ?_)
                  refine g_if_eq (t := 157) dX8_step_143 (by decide) (by first | omega | (simp [st2]; done) | (simp [st2]; omega)) (fun b143 => ?_) (fun b143 => ?_)
                  · refine g_bipush (by decide) dX8_step_157 ?_
                    refine g_ireturn rfl dX8_step_159 ?_
                    exact kE (h1 (by omega) (by rw [stR_u4 c0 cc (Or.inl (by omega))]; omega)) (stR_u4 c0 cc (Or.inl (by omega)))
                  · refine g_lload rfl dX8_step_146 ?_
                    refine g_ldc2 (n := (16384)) kc_RX8_110 dX8_step_148 ?_
                    refine g_cs2 (M2 := mX8_isIn) dX8_step_151 ml_RX8_112 kX8_isIn rfl (by decide) (by unfold Rm; decide) (Nat.le_of_ble_eq_true rfl) (ct_X8_isIn (by omega) (by omega) ?_)
                    refine g_if_ne (t := 160) dX8_step_154 (by decide) (by first | omega | (simp [st2]; done) | (simp [st2]; omega)) (fun b154 => ?_) (fun b154 => ?_)
                    · refine g_iconst dX8_step_160 ?_
                      refine g_istore (by decide) dX8_step_161 ?_
                      refine g_subl [(0, vR 44), (3, vI s), (4, vI (lu v : Int)), (5, vI (ld v : Int)), (6, vJ (vA v (lu v) - vA v (ld v))), (8, vJ (vB v (lu v) - vB v (ld v))), (10, vI ((0 : Nat) : Int))] rfl ?_
                      exact loopA (by omega) 0 (by omega) (fun p hp => absurd hp (by omega))
                    · refine g_bipush (by decide) dX8_step_157 ?_
                      refine g_ireturn rfl dX8_step_159 ?_
                      exact kE (h1 (by omega) (by rw [stR_u4 c0 cc (Or.inl (by omega))]; omega)) (stR_u4 c0 cc (Or.inl (by omega)))
            · exfalso; omega
          · exfalso; omega
        · exfalso; omega
      · have e3 := stR_3 c0 cc.symm
        refine g_aload_n rfl dX8_step_0 ?_
        refine gf_X8_94 rfl (by first | rfl | assumption) dX8_step_1 ?_
        refine g_if_ne (t := 9) dX8_step_4 (by decide) (by first | omega | (simp [st2]; done) | (simp [st2]; omega)) (fun b4 => ?_) (fun b4 => ?_)
        · refine g_aload_n rfl dX8_step_9 ?_
          refine gf_X8_26 (c2 := 50) rfl rfl (by first | rfl | assumption) dX8_step_10 ?_
          refine g_aload_n rfl dX8_step_13 ?_
          refine gf_X8_94 rfl (by first | rfl | assumption) dX8_step_14 ?_
          refine g_iconst dX8_step_17 ?_
          refine g_isub dX8_step_18 ?_
          refine g_iald (n := 8) (vn v - 1) (by first | rfl | assumption) (by first | rfl | assumption) (by omega) (by first | omega | (simp [st2]; done) | (simp [st2]; omega)) (by first | omega | (simp [st2]; done) | (simp [st2]; omega)) dX8_step_19 ?_
          rw [eu]
          refine g_istore_n (by decide) dX8_step_20 ?_
          refine g_aload_n rfl dX8_step_21 ?_
          refine gf_X8_29 (c2 := 51) rfl rfl (by first | rfl | assumption) dX8_step_22 ?_
          refine g_aload_n rfl dX8_step_25 ?_
          refine gf_X8_94 rfl (by first | rfl | assumption) dX8_step_26 ?_
          refine g_iconst dX8_step_29 ?_
          refine g_isub dX8_step_30 ?_
          refine g_iald (n := 8) (vn v - 1) (by first | rfl | assumption) (by first | rfl | assumption) (by omega) (by first | omega | (simp [st2]; done) | (simp [st2]; omega)) (by first | omega | (simp [st2]; done) | (simp [st2]; omega)) dX8_step_31 ?_
          rw [ed]
          refine g_istore_n (by decide) dX8_step_32 ?_
          refine g_iload_n rfl dX8_step_33 ?_
          refine g_iload_n rfl dX8_step_34 ?_
          refine g_icmp_ne (t := 41) dX8_step_35 (by decide) (by first | omega | (simp [st2]; done) | (simp [st2]; omega)) (by first | omega | (simp [st2]; done) | (simp [st2]; omega)) (fun b35 => ?_) (fun b35 => ?_)
          · refine g_aload_n rfl dX8_step_41 ?_
            refine g_aload_n rfl dX8_step_42 ?_
            refine gf_X8_19 (c2 := 48) rfl rfl (by first | rfl | assumption) dX8_step_43 ?_
            refine g_iload_n rfl dX8_step_46 ?_
            refine g_lald (n := 8) (lu v) (by first | rfl | assumption) (by first | rfl | assumption) (by omega) (by first | omega | (simp [st2]; done) | (simp [st2]; omega)) (by first | omega | (simp [st2]; done) | (simp [st2]; omega)) dX8_step_47 ?_
            refine g_aload_n rfl dX8_step_48 ?_
            refine gf_X8_19 (c2 := 48) rfl rfl (by first | rfl | assumption) dX8_step_49 ?_
            refine g_iload_n rfl dX8_step_52 ?_
            refine g_lald (n := 8) (ld v) (by first | rfl | assumption) (by first | rfl | assumption) (by omega) (by first | omega | (simp [st2]; done) | (simp [st2]; omega)) (by first | omega | (simp [st2]; done) | (simp [st2]; omega)) dX8_step_53 ?_
            refine g_lsub dX8_step_54 ?_
            refine g_aload_n rfl dX8_step_55 ?_
            refine gf_X8_23 (c2 := 49) rfl rfl (by first | rfl | assumption) dX8_step_56 ?_
            refine g_iload_n rfl dX8_step_59 ?_
            refine g_lald (n := 8) (lu v) (by first | rfl | assumption) (by first | rfl | assumption) (by omega) (by first | omega | (simp [st2]; done) | (simp [st2]; omega)) (by first | omega | (simp [st2]; done) | (simp [st2]; omega)) dX8_step_60 ?_
            refine g_aload_n rfl dX8_step_61 ?_
            refine gf_X8_23 (c2 := 49) rfl rfl (by first | rfl | assumption) dX8_step_62 ?_
            refine g_iload_n rfl dX8_step_65 ?_
            refine g_lald (n := 8) (ld v) (by first | rfl | assumption) (by first | rfl | assumption) (by omega) (by first | omega | (simp [st2]; done) | (simp [st2]; omega)) (by first | omega | (simp [st2]; done) | (simp [st2]; omega)) dX8_step_66 ?_
            refine g_lsub dX8_step_67 ?_
            rw [xu.1, xu.2.1, xd.1, xd.2.1]
            refine g_cv2 (M2 := mX8_signOf) (ci := 8) dX8_step_68 ml_RX8_116 kX8_signOf (by decide) (by first | rfl | assumption) (by decide) rfl (by unfold Rm; decide) (Nat.le_of_ble_eq_true rfl) (ct_X8_signOf (by rw [x2]; exact hr) (by omega) (by omega) ?_)
            rw [x2, ← es]
            refine g_istore_n (by decide) dX8_step_71 ?_
            refine g_iload_n rfl dX8_step_72 ?_
            refine g_if_ne (t := 79) dX8_step_73 (by decide) (by first | omega | (simp [st2]; done) | (simp [st2]; omega)) (fun b73 => ?_) (fun b73 => ?_)
            · exfalso; omega
            · refine g_bipush (by decide) dX8_step_76 ?_
              refine g_ireturn rfl dX8_step_78 ?_
              exact kE (h1 (by omega) (by omega)) e3
          · exfalso; omega
        · exfalso; omega
      · have hW : s = -1 := by omega
        have hpc := hv.2.2.2.2.1
        have hpo := hv.2.2.2.2.2.1
        have hne : va v (vn v - 1) ≠ ld v := fun e => c0 e
        have hpl := last_ne hpc hl.2 hne
        have xw := hX.2.2.1 _ hl.2
        have xx := hX.2.2.1 _ hl.1
        have vW := hv.2.2.2.1 _ hl.2
        have vX := hv.2.2.2.1 _ hl.1
        have hwn := hl.2
        have hxn := hl.1
        have fin : ¬ spent v (ld v) (lu v) → ∀ X4 X7 : Mm, (∀ t : Int, MvM X4 (stD v)) → (∀ d j, d ≠ 44 → (d < 48 ∨ 52 < d) → X4 d j = X d j) → (∀ j, X4 44 j = X 44 j) → (∀ d j, d ≠ 44 → X7 d j = X4 d j) → X7 44 11 = X 44 11 + 1 → X7 44 12 = X 44 12 + 0 → ((X 44 13 = 1 ∧ onL (stD v) a b) → X7 44 13 = 1) → (¬ (X 44 13 = 1 ∧ onL (stD v) a b) → X7 44 13 = 0) → (∀ j, j ≠ 11 → j ≠ 12 → j ≠ 13 → X7 44 j = X4 44 j) → K (vI 0) X7 := by
          intro hs X4 X7 hM f1 f2 f3 e11 e12 e13 e13n f4
          obtain ⟨er, en⟩ := stR_d0 c0 cc hs
          have hM7 : MvM X7 (stN v) := by
            rw [en]
            obtain ⟨m1, m2, m3, m4⟩ := hM 0
            refine ⟨by rw [f4 5 (by omega) (by omega) (by omega)]; exact m1, by rw [f4 0 (by omega) (by omega) (by omega)]; exact m2, fun k hk => ?_, fun i j hi hj => ?_⟩
            · rw [f3 48 k (by decide), f3 49 k (by decide), f3 50 k (by decide), f3 51 k (by decide)]
              exact m3 k hk
            · rw [f3 52 _ (by decide)]
              exact m4 i j hi hj
          refine kE (h2 (by omega) (by omega) X7 hM7 e11 (by rw [er]; exact e12) (by rw [en]; exact e13) (by rw [en]; exact e13n) (fun j j1 j2 j3 => by rw [f4 j j1 j2 j3]; exact f2 j) (fun d j hd hd2 => by rw [f3 d j hd]; exact f1 d j hd hd2)) er
        have tail : ¬ spent v (ld v) (lu v) → ∀ X2 : Mm, (∀ d j, d ≠ 52 → X2 d j = X d j) → (∀ i j, i < vn v → j < vn v → X2 52 (8 * i + j) = if j = lu v then vT v i (lu v) + vT v i (ld v) else vT v i j) → G l g mX8_step κ K 262 [(0, vR 44), (3, vI s), (4, vI (ld v : Int)), (5, vI (lu v : Int)), (6, vJ (vA v (ld v) - vA v (lu v))), (8, vJ (vB v (ld v) - vB v (lu v)))] [] X2 := by
          intro hs X2 hfr hT
          have hvN : Vd (stD v) := by
            have hh := stN_ok hv (by rw [(stR_d0 c0 cc hs).1]; omega)
            rw [(stR_d0 c0 cc hs).2] at hh
            exact hh.1
          clear hsg h0 h1 h2 cc c0 hne lU lD
          refine g_aload_n rfl dX8_step_262 ?_
          refine gf_X8_19 (c2 := 48) rfl rfl (by first | rfl | assumption) dX8_step_263 ?_
          refine g_iload rfl dX8_step_266 ?_
          refine g_lload rfl dX8_step_268 ?_
          refine g_last (n := 8) (ld v) (by first | rfl | assumption) (by first | rfl | assumption) (by omega) (by first | omega | (simp [st2]; done) | (simp [st2]; omega)) (by first | omega | (simp [st2]; done) | (simp [st2]; omega)) dX8_step_270 ?_
          refine g_aload_n rfl dX8_step_271 ?_
          refine gf_X8_23 (c2 := 49) rfl rfl (by first | rfl | assumption) dX8_step_272 ?_
          refine g_iload rfl dX8_step_275 ?_
          refine g_lload rfl dX8_step_277 ?_
          refine g_last (n := 8) (ld v) (by first | rfl | assumption) (by first | rfl | assumption) (by omega) (by first | omega | (simp [st2]; done) | (simp [st2]; omega)) (by first | omega | (simp [st2]; done) | (simp [st2]; omega)) dX8_step_279 ?_
          refine g_aload_n rfl dX8_step_280 ?_
          refine g_iload_n rfl dX8_step_281 ?_
          refine g_if_le (t := 292) dX8_step_282 (by decide) (by first | omega | (simp [st2]; done) | (simp [st2]; omega)) (fun b282 => ?_) (fun b282 => ?_)
          · refine g_aload_n rfl dX8_step_292 ?_
            refine gf_X8_26 (c2 := 50) rfl rfl (by first | rfl | assumption) dX8_step_293 ?_
            refine g_iload rfl dX8_step_296 ?_
            refine g_iload rfl dX8_step_298 ?_
            refine g_cv3v (M2 := mX8_brings) (ci := 8) dX8_step_300 ml_RX8_171 kX8_brings rfl (by first | rfl | assumption) (by decide) rfl (by unfold Rm; decide) (Nat.le_of_ble_eq_true rfl) (ct_X8_brings (n := vn v) (f := va v) (w := ld v) (k := lu v) (by show X2 44 5 = _; rw [hfr 44 5 (by decide)]; exact x1) (by omega) hpc rfl rfl (by decide) (fun j hj => by show X2 50 j = _; rw [hfr 50 j (by decide)]; exact (hX.2.2.1 j hj).2.2.1) hwn hpl (fun X4 f4 r4 => ?_))
            have g4 : ∀ d j, d ≠ 48 → d ≠ 49 → d ≠ 52 → d ≠ 50 → X4 d j = X d j := fun d j z1 z2 z3 z4 => by
              rw [f4 d j z4]
              simp only [st2, if_neg z1, if_neg z2]
              exact hfr d j z3
            have hM4 : ∀ t : Int, MvM X4 (stD v) := fun _ => mvM_stp hX (g4 44 5 (by decide) (by decide) (by decide) (by decide)) (g4 44 0 (by decide) (by decide) (by decide) (by decide)) (fun k hk => by
                rw [f4 48 k (by decide)]
                by_cases z : k = ld v
                · subst z
                  simp [st2]
                · simp [st2, z]
                  rw [hfr 48 k (by decide)]
                  exact (hX.2.2.1 k hk).1) (fun k hk => by
                rw [f4 49 k (by decide)]
                by_cases z : k = ld v
                · subst z
                  simp [st2]
                · simp [st2, z]
                  rw [hfr 49 k (by decide)]
                  exact (hX.2.2.1 k hk).2.1) r4 (fun k hk => by
                rw [g4 51 k (by decide) (by decide) (by decide) (by decide)]
                exact (hX.2.2.1 k hk).2.2.2) (fun i j hi hj => by
                rw [f4 52 _ (by decide)]
                exact hT i j hi hj)
            have q4 : ∀ d j, d ≠ 44 → (d < 48 ∨ 52 < d) → X4 d j = X d j := fun d j z1 z2 => g4 d j (by omega) (by omega) (by omega) (by omega)
            have p4 : ∀ j, X4 44 j = X 44 j := fun j => g4 44 j (by decide) (by decide) (by decide) (by decide)
            have p11 := p4 11
            have p12 := p4 12
            have p13 := p4 13
            have p14 := p4 14
            have p15 := p4 15
            have hMs : ∀ c : Int, MvM (st2 X4 44 11 c) (stD v) := fun c => by
              obtain ⟨m1, m2, m3, m4⟩ := hM4 0
              exact ⟨m1, m2, m3, m4⟩
            have hMs2 : ∀ c d : Int, MvM (st2 (st2 X4 44 11 c) 44 12 d) (stD v) := fun c d => by
              obtain ⟨m1, m2, m3, m4⟩ := hM4 0
              exact ⟨m1, m2, m3, m4⟩
            refine g_aload_n rfl dX8_step_303 ?_
            refine g_dup rfl dX8_step_304 ?_
            refine gf_X8_101 rfl (by first | rfl | assumption) dX8_step_305 ?_
            refine g_iconst dX8_step_308 ?_
            refine g_iadd dX8_step_309 ?_
            refine pf_X8_101 rfl (by first | rfl | assumption) dX8_step_310 ?_
            refine g_iload_n rfl dX8_step_313 ?_
            refine g_if_le (t := 327) dX8_step_314 (by decide) (by first | omega | (simp [st2]; done) | (simp [st2]; omega)) (fun b314 => ?_) (fun b314 => ?_)
            · refine g_aload_n rfl dX8_step_327 ?_
              refine gf_X8_97 rfl (by first | rfl | assumption) dX8_step_328 ?_
              refine g_if_eq (t := 354) dX8_step_331 (by decide) (by show -2147483648 ≤ X4 44 13 ∧ X4 44 13 < 2147483648; omega) (fun b331 => ?_) (fun b331 => ?_)
              · have b332 : X4 44 13 = 0 := b331
                refine g_iload_n rfl dX8_step_354 ?_
                refine g_if_le (t := 362) dX8_step_355 (by decide) (by first | omega | (simp [st2]; done) | (simp [st2]; omega)) (fun b355 => ?_) (fun b355 => ?_)
                · refine g_iconst dX8_step_362 ?_
                  refine g_ireturn rfl dX8_step_363 ?_
                  refine fin hs X4 _ hM4 q4 p4 ?_ ?_ ?_ ?_ ?_ ?_
                  · intro d j hd
                    simp [st2, hd]
                  · simp [st2]
                    omega
                  · simp [st2]
                    omega
                  · intro q
                    first | exact absurd q.2 hon | (simp [st2]; omega)
                  · intro q
                    first | rfl | exact absurd (And.intro (by omega) hon) q | (simp [st2]; omega)
                  · intro j z1 z2 z3
                    simp [st2, z1, z2, z3]
                · exfalso; omega
              · have b332 : ¬ X4 44 13 = 0 := b331
                obtain ⟨ea, eb, hpb, hr0⟩ := hpt (by omega)
                refine g_aload_n rfl dX8_step_334 ?_
                refine g_aload_n rfl dX8_step_335 ?_
                refine gf_X8_157 rfl (by first | rfl | assumption) dX8_step_336 ?_
                refine g_aload_n rfl dX8_step_339 ?_
                refine gf_X8_160 rfl (by first | rfl | assumption) dX8_step_340 ?_
                show G l g mX8_step κ K 343 _ [vJ (X4 44 15), vJ (X4 44 14), vR 44] _
                rw [p14, p15, ea, eb]
                refine g_cv2 (M2 := mX8_isOnLine) (ci := 8) dX8_step_343 ml_RX8_154 kX8_isOnLine (by decide) (by first | rfl | assumption) (by decide) rfl (by unfold Rm; decide) (Nat.le_of_ble_eq_true rfl) (ct_X8_isOnLine (v := stD v) (by first | exact hMs2 _ _ | exact hMs _) hvN hpb hr0 (fun hon => ?_) (fun hon => ?_))
                · refine g_if_ne (t := 354) dX8_step_346 (by decide) (by first | omega | (simp [st2]; done) | (simp [st2]; omega)) (fun b346 => ?_) (fun b346 => ?_)
                  · refine g_iload_n rfl dX8_step_354 ?_
                    refine g_if_le (t := 362) dX8_step_355 (by decide) (by first | omega | (simp [st2]; done) | (simp [st2]; omega)) (fun b355 => ?_) (fun b355 => ?_)
                    · refine g_iconst dX8_step_362 ?_
                      refine g_ireturn rfl dX8_step_363 ?_
                      refine fin hs X4 _ hM4 q4 p4 ?_ ?_ ?_ ?_ ?_ ?_
                      · intro d j hd
                        simp [st2, hd]
                      · simp [st2]
                        omega
                      · simp [st2]
                        omega
                      · intro q
                        first | exact absurd q.2 hon | (simp [st2]; omega)
                      · intro q
                        first | rfl | exact absurd (And.intro (by omega) hon) q | (simp [st2]; omega)
                      · intro j z1 z2 z3
                        simp [st2, z1, z2, z3]
                    · exfalso; omega
                  · exact absurd b346 (by decide)
                · refine g_if_ne (t := 354) dX8_step_346 (by decide) (by first | omega | (simp [st2]; done) | (simp [st2]; omega)) (fun b346 => ?_) (fun b346 => ?_)
                  · exact absurd rfl b346
                  · refine g_aload_n rfl dX8_step_349 ?_
                    refine g_iconst dX8_step_350 ?_
                    refine pf_X8_97 (by omega) rfl (by first | rfl | assumption) dX8_step_351 ?_
                    refine g_iload_n rfl dX8_step_354 ?_
                    refine g_if_le (t := 362) dX8_step_355 (by decide) (by first | omega | (simp [st2]; done) | (simp [st2]; omega)) (fun b355 => ?_) (fun b355 => ?_)
                    · refine g_iconst dX8_step_362 ?_
                      refine g_ireturn rfl dX8_step_363 ?_
                      refine fin hs X4 _ hM4 q4 p4 ?_ ?_ ?_ ?_ ?_ ?_
                      · intro d j hd
                        simp [st2, hd]
                      · simp [st2]
                        omega
                      · simp [st2]
                        omega
                      · intro q
                        first | exact absurd q.2 hon | (simp [st2]; omega)
                      · intro q
                        first | rfl | exact absurd (And.intro (by omega) hon) q | (simp [st2]; omega)
                      · intro j z1 z2 z3
                        simp [st2, z1, z2, z3]
                    · exfalso; omega
            · exfalso; omega
          · exfalso; omega
        have loopB : ¬ spent v (ld v) (lu v) → ∀ i : Nat, i ≤ vn v → ∀ X2 : Mm, (∀ d j, d ≠ 52 → X2 d j = X d j) → (∀ p q, p < vn v → q < vn v → X2 52 (8 * p + q) = if p < i ∧ q = lu v then vT v p (lu v) + vT v p (ld v) else vT v p q) → G l g mX8_step κ K 218 [(0, vR 44), (3, vI s), (4, vI (ld v : Int)), (5, vI (lu v : Int)), (6, vJ (vA v (ld v) - vA v (lu v))), (8, vJ (vB v (ld v) - vB v (lu v))), (10, vI (i : Int))] [] X2 := by
          intro hs
          refine upTo (vn v) ?_
          intro i hi ih X2 hfr hT
          have z5 : X2 44 5 = (vn v : Int) := by rw [hfr 44 5 (by decide)]; exact x1
          refine g_iload rfl dX8_step_218 ?_
          refine g_aload_n rfl dX8_step_220 ?_
          refine gf_X8_94 rfl (by first | rfl | assumption) dX8_step_221 ?_
          refine g_icmp_ge (t := 262) dX8_step_224 (by decide) (by first | omega | (simp [st2]; done) | (simp [st2]; omega)) (by first | omega | (simp [st2]; done) | (simp [st2]; omega)) (fun b224 => ?_) (fun b224 => ?_)
          · refine g_subl [(0, vR 44), (3, vI s), (4, vI (ld v : Int)), (5, vI (lu v : Int)), (6, vJ (vA v (ld v) - vA v (lu v))), (8, vJ (vB v (ld v) - vB v (lu v)))] rfl ?_
            refine tail hs X2 hfr (fun p q hp hq => ?_)
            rw [hT p q hp hq]
            by_cases z : q = lu v
            · rw [if_pos ⟨by omega, z⟩, if_pos z]
            · rw [if_neg (fun w => z w.2), if_neg z]
          · refine g_aload_n rfl dX8_step_227 ?_
            refine gf_X8_32 (c2 := 52) rfl rfl (by first | rfl | assumption) dX8_step_228 ?_
            refine g_bipush (by decide) dX8_step_231 ?_
            refine g_iload rfl dX8_step_233 ?_
            refine g_imul dX8_step_235 ?_
            refine g_iload rfl dX8_step_236 ?_
            refine g_iadd dX8_step_238 ?_
            refine g_dup2 rfl rfl dX8_step_239 ?_
            refine g_lald (n := 64) (8 * i + lu v) (by first | rfl | assumption) (by first | rfl | assumption) (by omega) (by first | omega | (simp [st2]; done) | (simp [st2]; omega)) (by first | omega | (simp [st2]; done) | (simp [st2]; omega)) dX8_step_240 ?_
            refine g_aload_n rfl dX8_step_241 ?_
            refine gf_X8_32 (c2 := 52) rfl rfl (by first | rfl | assumption) dX8_step_242 ?_
            refine g_bipush (by decide) dX8_step_245 ?_
            refine g_iload rfl dX8_step_247 ?_
            refine g_imul dX8_step_249 ?_
            refine g_iload rfl dX8_step_250 ?_
            refine g_iadd dX8_step_252 ?_
            refine g_lald (n := 64) (8 * i + ld v) (by first | rfl | assumption) (by first | rfl | assumption) (by omega) (by first | omega | (simp [st2]; done) | (simp [st2]; omega)) (by first | omega | (simp [st2]; done) | (simp [st2]; omega)) dX8_step_253 ?_
            refine g_ladd dX8_step_254 ?_
            refine g_last (n := 64) (8 * i + lu v) (by first | rfl | assumption) (by first | rfl | assumption) (by omega) (by first | omega | (simp [st2]; done) | (simp [st2]; omega)) (by first | omega | (simp [st2]; done) | (simp [st2]; omega)) dX8_step_255 ?_
            refine g_iinc rfl (by decide) dX8_step_256 ?_
            refine g_goto (t := 218) dX8_step_259 (by decide) ?_
            refine g_subl [(0, vR 44), (3, vI s), (4, vI (ld v : Int)), (5, vI (lu v : Int)), (6, vJ (vA v (ld v) - vA v (lu v))), (8, vJ (vB v (ld v) - vB v (lu v))), (10, vI ((i + 1 : Nat) : Int))] rfl ?_
            have hT1 := hT i (lu v) (by omega) hxn
            have hT2 := hT i (ld v) (by omega) hwn
            rw [if_neg (by omega)] at hT1 hT2
            obtain ⟨n1, n2⟩ := tB_s (w := ld v) hn8 hxn (by omega) hfr hT (show X2 52 (8 * i + lu v) + X2 52 (8 * i + ld v) = _ by rw [hT1, hT2])
            exact ih (i + 1) (by omega) (by omega) _ n1 n2
        have loopA : ((-16384 ≤ vA v (ld v) - vA v (lu v) ∧ vA v (ld v) - vA v (lu v) ≤ 16384) ∧ (-16384 ≤ vB v (ld v) - vB v (lu v) ∧ vB v (ld v) - vB v (lu v) ≤ 16384)) → ∀ i : Nat, i ≤ vn v → (∀ p, p < i → vT v p (lu v) + vT v p (ld v) ≤ 1099511627776) → G l g mX8_step κ K 163 [(0, vR 44), (3, vI s), (4, vI (ld v : Int)), (5, vI (lu v : Int)), (6, vJ (vA v (ld v) - vA v (lu v))), (8, vJ (vB v (ld v) - vB v (lu v))), (10, vI (i : Int))] [] X := by
          intro hab
          refine upTo (vn v) ?_
          intro i hi ih hlt
          refine g_iload rfl dX8_step_163 ?_
          refine g_aload_n rfl dX8_step_165 ?_
          refine gf_X8_94 rfl (by first | rfl | assumption) dX8_step_166 ?_
          refine g_icmp_ge (t := 215) dX8_step_169 (by decide) (by first | omega | (simp [st2]; done) | (simp [st2]; omega)) (by first | omega | (simp [st2]; done) | (simp [st2]; omega)) (fun b169 => ?_) (fun b169 => ?_)
          · refine g_iconst dX8_step_215 ?_
            refine g_istore (by decide) dX8_step_216 ?_
            refine g_subl [(0, vR 44), (3, vI s), (4, vI (ld v : Int)), (5, vI (lu v : Int)), (6, vJ (vA v (ld v) - vA v (lu v))), (8, vJ (vB v (ld v) - vB v (lu v))), (10, vI ((0 : Nat) : Int))] rfl ?_
            refine loopB (fun q => ?_) 0 (by omega) X (fun _ _ _ => rfl) (fun p q hp hq => by rw [if_neg (by omega)]; exact hX.2.2.2 p q hp hq)
            rcases q with q | ⟨p, hp, q⟩
            · exact q hab
            · have := hlt p (by omega)
              omega
          · have t1 := hX.2.2.2 i (lu v) (by omega) hxn
            have t2 := hX.2.2.2 i (ld v) (by omega) hwn
            have b1 := hv.2.2.2.2.2.2 i (lu v) (by omega) hxn
            have b2 := hv.2.2.2.2.2.2 i (ld v) (by omega) hwn
            refine g_aload_n rfl dX8_step_172 ?_
            refine gf_X8_32 (c2 := 52) rfl rfl (by first | rfl | assumption) dX8_step_173 ?_
            refine g_bipush (by decide) dX8_step_176 ?_
            refine g_iload rfl dX8_step_178 ?_
            refine g_imul dX8_step_180 ?_
            refine g_iload rfl dX8_step_181 ?_
            refine g_iadd dX8_step_183 ?_
            refine g_lald (n := 64) (8 * i + lu v) (by first | rfl | assumption) (by first | rfl | assumption) (by omega) (by first | omega | (simp [st2]; done) | (simp [st2]; omega)) (by first | omega | (simp [st2]; done) | (simp [st2]; omega)) dX8_step_184 ?_
            refine g_aload_n rfl dX8_step_185 ?_
            refine gf_X8_32 (c2 := 52) rfl rfl (by first | rfl | assumption) dX8_step_186 ?_
            refine g_bipush (by decide) dX8_step_189 ?_
            refine g_iload rfl dX8_step_191 ?_
            refine g_imul dX8_step_193 ?_
            refine g_iload rfl dX8_step_194 ?_
            refine g_iadd dX8_step_196 ?_
            refine g_lald (n := 64) (8 * i + ld v) (by first | rfl | assumption) (by first | rfl | assumption) (by omega) (by first | omega | (simp [st2]; done) | (simp [st2]; omega)) (by first | omega | (simp [st2]; done) | (simp [st2]; omega)) dX8_step_197 ?_
            refine g_ladd dX8_step_198 ?_
            refine g_ldc2 (n := (1099511627776)) kc_RX8_169 dX8_step_199 ?_
            refine g_lle (t := 209) dX8_step_202 dX8_step_203 (by decide) (by first | omega | (simp [st2]; done) | (simp [st2]; omega)) (by first | omega | (simp [st2]; done) | (simp [st2]; omega)) (fun b202 => ?_) (fun b202 => ?_)
            · refine g_iinc rfl (by decide) dX8_step_209 ?_
              refine g_goto (t := 163) dX8_step_212 (by decide) ?_
              refine g_subl [(0, vR 44), (3, vI s), (4, vI (ld v : Int)), (5, vI (lu v : Int)), (6, vJ (vA v (ld v) - vA v (lu v))), (8, vJ (vB v (ld v) - vB v (lu v))), (10, vI ((i + 1 : Nat) : Int))] rfl ?_
              refine ih (i + 1) (by omega) (by omega) (fun p hp => ?_)
              rcases Nat.lt_or_ge p i with z | z
              · exact hlt p z
              · rw [show p = i by omega]; omega
            · refine g_bipush (by decide) dX8_step_206 ?_
              refine g_ireturn rfl dX8_step_208 ?_
              exact kE (h1 (by omega) (by rw [stR_d4 c0 cc (Or.inr ⟨i, by omega, by omega⟩)]; omega)) (stR_d4 c0 cc (Or.inr ⟨i, by omega, by omega⟩))
        refine g_aload_n rfl dX8_step_0 ?_
        refine gf_X8_94 rfl (by first | rfl | assumption) dX8_step_1 ?_
        refine g_if_ne (t := 9) dX8_step_4 (by decide) (by first | omega | (simp [st2]; done) | (simp [st2]; omega)) (fun b4 => ?_) (fun b4 => ?_)
        · refine g_aload_n rfl dX8_step_9 ?_
          refine gf_X8_26 (c2 := 50) rfl rfl (by first | rfl | assumption) dX8_step_10 ?_
          refine g_aload_n rfl dX8_step_13 ?_
          refine gf_X8_94 rfl (by first | rfl | assumption) dX8_step_14 ?_
          refine g_iconst dX8_step_17 ?_
          refine g_isub dX8_step_18 ?_
          refine g_iald (n := 8) (vn v - 1) (by first | rfl | assumption) (by first | rfl | assumption) (by omega) (by first | omega | (simp [st2]; done) | (simp [st2]; omega)) (by first | omega | (simp [st2]; done) | (simp [st2]; omega)) dX8_step_19 ?_
          rw [eu]
          refine g_istore_n (by decide) dX8_step_20 ?_
          refine g_aload_n rfl dX8_step_21 ?_
          refine gf_X8_29 (c2 := 51) rfl rfl (by first | rfl | assumption) dX8_step_22 ?_
          refine g_aload_n rfl dX8_step_25 ?_
          refine gf_X8_94 rfl (by first | rfl | assumption) dX8_step_26 ?_
          refine g_iconst dX8_step_29 ?_
          refine g_isub dX8_step_30 ?_
          refine g_iald (n := 8) (vn v - 1) (by first | rfl | assumption) (by first | rfl | assumption) (by omega) (by first | omega | (simp [st2]; done) | (simp [st2]; omega)) (by first | omega | (simp [st2]; done) | (simp [st2]; omega)) dX8_step_31 ?_
          rw [ed]
          refine g_istore_n (by decide) dX8_step_32 ?_
          refine g_iload_n rfl dX8_step_33 ?_
          refine g_iload_n rfl dX8_step_34 ?_
          refine g_icmp_ne (t := 41) dX8_step_35 (by decide) (by first | omega | (simp [st2]; done) | (simp [st2]; omega)) (by first | omega | (simp [st2]; done) | (simp [st2]; omega)) (fun b35 => ?_) (fun b35 => ?_)
          · refine g_aload_n rfl dX8_step_41 ?_
            refine g_aload_n rfl dX8_step_42 ?_
            refine gf_X8_19 (c2 := 48) rfl rfl (by first | rfl | assumption) dX8_step_43 ?_
            refine g_iload_n rfl dX8_step_46 ?_
            refine g_lald (n := 8) (lu v) (by first | rfl | assumption) (by first | rfl | assumption) (by omega) (by first | omega | (simp [st2]; done) | (simp [st2]; omega)) (by first | omega | (simp [st2]; done) | (simp [st2]; omega)) dX8_step_47 ?_
            refine g_aload_n rfl dX8_step_48 ?_
            refine gf_X8_19 (c2 := 48) rfl rfl (by first | rfl | assumption) dX8_step_49 ?_
            refine g_iload_n rfl dX8_step_52 ?_
            refine g_lald (n := 8) (ld v) (by first | rfl | assumption) (by first | rfl | assumption) (by omega) (by first | omega | (simp [st2]; done) | (simp [st2]; omega)) (by first | omega | (simp [st2]; done) | (simp [st2]; omega)) dX8_step_53 ?_
            refine g_lsub dX8_step_54 ?_
            refine g_aload_n rfl dX8_step_55 ?_
            refine gf_X8_23 (c2 := 49) rfl rfl (by first | rfl | assumption) dX8_step_56 ?_
            refine g_iload_n rfl dX8_step_59 ?_
            refine g_lald (n := 8) (lu v) (by first | rfl | assumption) (by first | rfl | assumption) (by omega) (by first | omega | (simp [st2]; done) | (simp [st2]; omega)) (by first | omega | (simp [st2]; done) | (simp [st2]; omega)) dX8_step_60 ?_
            refine g_aload_n rfl dX8_step_61 ?_
            refine gf_X8_23 (c2 := 49) rfl rfl (by first | rfl | assumption) dX8_step_62 ?_
            refine g_iload_n rfl dX8_step_65 ?_
            refine g_lald (n := 8) (ld v) (by first | rfl | assumption) (by first | rfl | assumption) (by omega) (by first | omega | (simp [st2]; done) | (simp [st2]; omega)) (by first | omega | (simp [st2]; done) | (simp [st2]; omega)) dX8_step_66 ?_
            refine g_lsub dX8_step_67 ?_
            rw [xu.1, xu.2.1, xd.1, xd.2.1]
            refine g_cv2 (M2 := mX8_signOf) (ci := 8) dX8_step_68 ml_RX8_116 kX8_signOf (by decide) (by first | rfl | assumption) (by decide) rfl (by unfold Rm; decide) (Nat.le_of_ble_eq_true rfl) (ct_X8_signOf (by rw [x2]; exact hr) (by omega) (by omega) ?_)
            rw [x2, ← es]
            refine g_istore_n (by decide) dX8_step_71 ?_
            refine g_iload_n rfl dX8_step_72 ?_
            refine g_if_ne (t := 79) dX8_step_73 (by decide) (by first | omega | (simp [st2]; done) | (simp [st2]; omega)) (fun b73 => ?_) (fun b73 => ?_)
            · refine g_iload_n rfl dX8_step_79 ?_
              refine g_if_le (t := 87) dX8_step_80 (by decide) (by first | omega | (simp [st2]; done) | (simp [st2]; omega)) (fun b80 => ?_) (fun b80 => ?_)
              · refine g_iload_n rfl dX8_step_87 ?_
                refine g_istore (by decide) dX8_step_88 ?_
                refine g_iload_n rfl dX8_step_90 ?_
                refine g_if_le (t := 98) dX8_step_91 (by decide) (by first | omega | (simp [st2]; done) | (simp [st2]; omega)) (fun b91 => ?_) (fun b91 => ?_)
                · refine g_iload_n rfl dX8_step_98 ?_
                  refine g_istore (by decide) dX8_step_99 ?_
                  refine g_aload_n rfl dX8_step_101 ?_
                  refine gf_X8_19 (c2 := 48) rfl rfl (by first | rfl | assumption) dX8_step_102 ?_
                  refine g_iload rfl dX8_step_105 ?_
                  refine g_lald (n := 8) (ld v) (by first | rfl | assumption) (by first | rfl | assumption) (by omega) (by first | omega | (simp [st2]; done) | (simp [st2]; omega)) (by first | omega | (simp [st2]; done) | (simp [st2]; omega)) dX8_step_107 ?_
                  refine g_aload_n rfl dX8_step_108 ?_
                  refine gf_X8_19 (c2 := 48) rfl rfl (by first | rfl | assumption) dX8_step_109 ?_
                  refine g_iload rfl dX8_step_112 ?_
                  refine g_lald (n := 8) (lu v) (by first | rfl | assumption) (by first | rfl | assumption) (by omega) (by first | omega | (simp [st2]; done) | (simp [st2]; omega)) (by first | omega | (simp [st2]; done) | (simp [st2]; omega)) dX8_step_114 ?_
                  refine g_lsub dX8_step_115 ?_
                  rw [xw.1, xx.1]
                  refine g_lstore (by decide) dX8_step_116 ?_
                  refine g_aload_n rfl dX8_step_118 ?_
                  refine gf_X8_23 (c2 := 49) rfl rfl (by first | rfl | assumption) dX8_step_119 ?_
                  refine g_iload rfl dX8_step_122 ?_
                  refine g_lald (n := 8) (ld v) (by first | rfl | assumption) (by first | rfl | assumption) (by omega) (by first | omega | (simp [st2]; done) | (simp [st2]; omega)) (by first | omega | (simp [st2]; done) | (simp [st2]; omega)) dX8_step_124 ?_
                  refine g_aload_n rfl dX8_step_125 ?_
                  refine gf_X8_23 (c2 := 49) rfl rfl (by first | rfl | assumption) dX8_step_126 ?_
                  refine g_iload rfl dX8_step_129 ?_
                  refine g_lald (n := 8) (lu v) (by first | rfl | assumption) (by first | rfl | assumption) (by omega) (by first | omega | (simp [st2]; done) | (simp [st2]; omega)) (by first | omega | (simp [st2]; done) | (simp [st2]; omega)) dX8_step_131 ?_
                  refine g_lsub dX8_step_132 ?_
                  rw [xw.2.1, xx.2.1]
                  refine g_lstore (by decide) dX8_step_133 ?_
                  refine g_lload rfl dX8_step_135 ?_
                  refine g_ldc2 (n := (16384)) kc_RX8_110 dX8_step_137 ?_
                  refine g_cs2 (M2 := mX8_isIn) dX8_step_140 ml_RX8_112 kX8_isIn rfl (by decide) (by unfold Rm; decide) (Nat.le_of_ble_eq_true rfl) (ct_X8_isIn (by omega) (by omega) ?_)
                  refine g_if_eq (t := 157) dX8_step_143 (by decide) (by first | omega | (simp [st2]; done) | (simp [st2]; omega)) (fun b143 => ?_) (fun b143 => ?_)
                  · refine g_bipush (by decide) dX8_step_157 ?_
                    refine g_ireturn rfl dX8_step_159 ?_
                    exact kE (h1 (by omega) (by rw [stR_d4 c0 cc (Or.inl (by omega))]; omega)) (stR_d4 c0 cc (Or.inl (by omega)))
                  · refine g_lload rfl dX8_step_146 ?_
                    refine g_ldc2 (n := (16384)) kc_RX8_110 dX8_step_148 ?_
                    refine g_cs2 (M2 := mX8_isIn) dX8_step_151 ml_RX8_112 kX8_isIn rfl (by decide) (by unfold Rm; decide) (Nat.le_of_ble_eq_true rfl) (ct_X8_isIn (by omega) (by omega) ?_)
                    refine g_if_ne (t := 160) dX8_step_154 (by decide) (by first | omega | (simp [st2]; done) | (simp [st2]; omega)) (fun b154 => ?_) (fun b154 => ?_)
                    · refine g_iconst dX8_step_160 ?_
                      refine g_istore (by decide) dX8_step_161 ?_
                      refine g_subl [(0, vR 44), (3, vI s), (4, vI (ld v : Int)), (5, vI (lu v : Int)), (6, vJ (vA v (ld v) - vA v (lu v))), (8, vJ (vB v (ld v) - vB v (lu v))), (10, vI ((0 : Nat) : Int))] rfl ?_
                      exact loopA (by omega) 0 (by omega) (fun p hp => absurd hp (by omega))
                    · refine g_bipush (by decide) dX8_step_157 ?_
                      refine g_ireturn rfl dX8_step_159 ?_
                      exact kE (h1 (by omega) (by rw [stR_d4 c0 cc (Or.inl (by omega))]; omega)) (stR_d4 c0 cc (Or.inl (by omega)))
                · exfalso; omega
              · exfalso; omega
            · exfalso; omega
          · exfalso; omega
        · exfalso; omega
