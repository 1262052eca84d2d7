def SeM (X : Mm) (v : Mv) (Q : Nat → Prop) : Prop := ∀ p, p < pN v → (Q p → X 63 p = 1) ∧ (¬ Q p → X 63 p = 0)
theorem SeM.cong {X : Mm} {v : Mv} {Q R : Nat → Prop} (h : SeM X v Q) (e : ∀ p, p < pN v → (Q p ↔ R p)) : SeM X v R := fun p hp => ⟨fun z => (h p hp).1 ((e p hp).mpr z), fun z => (h p hp).2 (fun w => z ((e p hp).mp w))⟩
theorem SeM.put {X : Mm} {v : Mv} {Q : Nat → Prop} {x : Nat} (h : SeM X v Q) : SeM (st2 X 63 x 1) v (fun p => Q p ∨ p = x) := fun p hp => by
  by_cases z : p = x
  · exact ⟨fun _ => by simp [st2, z], fun w => absurd (Or.inr z) w⟩
  · refine ⟨fun w => ?_, fun w => ?_⟩
    · simp only [st2, if_true, if_neg z]
      exact (h p hp).1 (w.resolve_right z)
    · simp only [st2, if_true, if_neg z]
      exact (h p hp).2 (fun y => w (Or.inl y))
set_option maxRecDepth 100000 in
set_option maxHeartbeats 4000000 in
theorem ct_X8_rounds {l : Launch} {g : Geo} {X : Mm} {K : AV → Mm → Prop} {v : Mv} (hX : MvM X v) (hv : vn v ≠ 0 → Vd v) (h0 : vn v = 0 → K (vI (-1)) X) (h1 : vn v ≠ 0 → (vr v ≠ 0 ∨ 2000 < ps (vA v) (va v) (vn v)) → K (vI (-2)) X) (h2 : vn v ≠ 0 → vr v = 0 → ps (vA v) (va v) (vn v) ≤ 2000 → ∀ X2, FrR X X2 → X2 44 25 = (nRd v (pN v) : Int) → RdS X2 v 58 59 60 (pN v) → K (vI (nRd v (pN v) : Int)) X2) : Ct l g mX8_rounds [vR 44] X K := by
  refine enter (by decide) (Nat.le_of_ble_eq_true rfl) (fun κ => ?_)
  have x1 : X 44 5 = (vn v : Int) := hX.1
  have x0 : X 44 0 = vr v := hX.2.1
  rcases Nat.eq_zero_or_pos (vn v) with hn | hn
  · have hzz := hn
    refine g_aload_n rfl dX8_rounds_0 ?_
    refine gf_X8_94 rfl (by first | rfl | assumption) dX8_rounds_1 ?_
    refine g_if_ne (t := 9) dX8_rounds_4 (by decide) (by first | omega | (simp [st2]; done) | (simp [st2]; omega)) (fun b4 => ?_) (fun b4 => ?_)
    · exfalso; omega
    · refine g_iconst dX8_rounds_7 ?_
      refine g_ireturn rfl dX8_rounds_8 ?_
      exact h0 hn
  have hn0 : vn v ≠ 0 := by omega
  have hv := hv hn0
  have hn8 := hv.2.1
  have hrt := hv.2.2.1
  unfold isRoot at hrt
  have hbd := hv.psA hv.2.2.2.2.1 (Nat.le_refl _)
  rcases (show (vr v ≠ 0 ∨ 2000 < ps (vA v) (va v) (vn v)) ∨ (vr v = 0 ∧ ps (vA v) (va v) (vn v) ≤ 2000) by omega) with hc | ⟨hr, hN0⟩
  · have hzz := hc
    refine g_aload_n rfl dX8_rounds_0 ?_
    refine gf_X8_94 rfl (by first | rfl | assumption) dX8_rounds_1 ?_
    refine g_if_ne (t := 9) dX8_rounds_4 (by decide) (by first | omega | (simp [st2]; done) | (simp [st2]; omega)) (fun b4 => ?_) (fun b4 => ?_)
    · refine g_aload_n rfl dX8_rounds_9 ?_
      refine gf_X8_87 rfl (by first | rfl | assumption) dX8_rounds_10 ?_
      refine g_if_ne (t := 28) dX8_rounds_13 (by decide) (by first | omega | (simp [st2]; done) | (simp [st2]; omega)) (fun b13 => ?_) (fun b13 => ?_)
      · refine g_bipush (by decide) dX8_rounds_28 ?_
        refine g_ireturn rfl dX8_rounds_30 ?_
        exact h1 hn0 hc
      · refine g_aload_n rfl dX8_rounds_16 ?_
        refine g_iconst dX8_rounds_17 ?_
        refine g_cv1 (M2 := mX8_total) (ci := 8) dX8_rounds_18 ml_RX8_124 kX8_total (by decide) (by first | rfl | assumption) (by decide) rfl (by unfold Rm; decide) (Nat.le_of_ble_eq_true rfl) (ct_X8_total (by omega) x1 hn8 ?_)
        rw [tA_pN hX hv]
        refine g_ldc2 (n := (2000)) kc_RX8_188 dX8_rounds_21 ?_
        refine g_lle (t := 31) dX8_rounds_24 dX8_rounds_25 (by decide) (by first | omega | (simp [st2]; done) | (simp [st2]; omega)) (by first | omega | (simp [st2]; done) | (simp [st2]; omega)) (fun b24 => ?_) (fun b24 => ?_)
        · exfalso; omega
        · refine g_bipush (by decide) dX8_rounds_28 ?_
          refine g_ireturn rfl dX8_rounds_30 ?_
          exact h1 hn0 hc
    · exfalso; omega
  have hNc := pN_c hv hr
  have hN : pN v ≤ 2000 := by omega
  have hP := pcs_ok hv hr
  have hle := nRd_le hv hr
  have loop : ∀ k, k ≤ pN v → ∀ X2, FrR X X2 → ToM X2 v → SeM X2 v (SnP (pN v) (pT v) (pR v) k) → X2 44 25 = (nRd v k : Int) → RdS X2 v 58 59 60 k → G l g mX8_rounds κ K 63 [(0, vR 44), (1, vI (pN v : Int)), (2, vI (k : Int))] [] X2 := by
    refine upTo _ ?_
    intro k hkN ih X2 hfr hT hS e25 hRd
    have hm := nRd_mono v hkN
    obtain ⟨W, eW⟩ : ∃ W, W = mnP (pN v) (pT v) (pR v) k := ⟨_, rfl⟩
    obtain ⟨P, eP2⟩ : ∃ P, P = perP (pN v) (pT v) k := ⟨_, rfl⟩
    -- the orbits of the pieces from k to k + W - 1 are marked
    have mark : k < pN v → ¬ SnP (pN v) (pT v) (pR v) k k → ∀ s, s ≤ W → ∀ X3 (t : Nat), (∀ d j, d ≠ 63 → X3 d j = X2 d j) → SeM X3 v (fun p => SnP (pN v) (pT v) (pR v) k p ∨ ∃ a r, r < s ∧ p = itP (pT v) a (k + r)) → (0 < s → t = P) → t ≤ 2000 → G l g mX8_rounds κ K 128 [(0, vR 44), (1, vI (pN v : Int)), (2, vI (k : Int)), (3, vI (k : Int)), (4, vI ((k + W - 1 : Nat) : Int)), (5, vI (t : Int)), (6, vI ((k + s : Nat) : Int))] [] X3 := by
      intro hkl hun
      obtain ⟨m1, m2, m3, m4⟩ := mn_spec hP hkl
      obtain ⟨q1, q2, q3, q4⟩ := perP_spec hP hkl
      rw [← eW] at m1 m3 m4
      rw [← eP2] at q1 q2
      refine upTo W ?_
      intro s hs ih2 X3 t hf3 hS3 ht ht2
      have inner : s < W → ∀ i, i ≤ P → ∀ X4, (∀ d j, d ≠ 63 → X4 d j = X2 d j) → SeM X4 v (fun p => SnP (pN v) (pT v) (pR v) k p ∨ (∃ a r, r < s ∧ p = itP (pT v) a (k + r)) ∨ ∃ a, a < i ∧ p = itP (pT v) a (k + s)) → G l g mX8_rounds κ K 142 [(0, vR 44), (1, vI (pN v : Int)), (2, vI (k : Int)), (3, vI (k : Int)), (4, vI ((k + W - 1 : Nat) : Int)), (5, vI (i : Int)), (6, vI ((k + s : Nat) : Int)), (7, vI (itP (pT v) i (k + s) : Int))] [] X4 := by
        intro hsW
        have hks : k + s < pN v := by omega
        have hper : perP (pN v) (pT v) (k + s) = P := by rw [eP2]; exact per_sh hP hkl (by omega)
        obtain ⟨r1, r2, r3, r4⟩ := perP_spec hP hks
        rw [hper] at r1 r2 r3 r4
        refine upTo P ?_
        intro i hi ih3 X4 hf4 hS4
        have hlt := itP_lt hP hks i
        have hlt2 := itP_lt hP hks (i + 1)
        have e61 : ∀ w, (st2 X4 63 (itP (pT v) i (k + s)) w) 61 (itP (pT v) i (k + s)) = (itP (pT v) (i + 1) (k + s) : Int) := fun w => by
          show X4 61 _ = _
          rw [hf4 61 _ (by decide)]
          exact (hT _ hlt).1
        refine g_iload rfl dX8_rounds_142 ?_
        refine g_if_eq (t := 154) dX8_rounds_144 (by decide) (by first | omega | (simp [st2]; done) | (simp [st2]; omega)) (fun b144 => ?_) (fun b144 => ?_)
        · have hip : i < P := by omega
          refine g_aload_n rfl dX8_rounds_154 ?_
          refine gf_X8_65 (c2 := 63) rfl rfl (by first | rfl | assumption) dX8_rounds_155 ?_
          refine g_iload rfl dX8_rounds_158 ?_
          refine g_iconst dX8_rounds_160 ?_
          refine g_zast (n := 2000) (itP (pT v) i (k + s)) (by omega) (by first | rfl | assumption) (by first | rfl | assumption) (by omega) (by first | omega | (simp [st2]; done) | (simp [st2]; omega)) (by first | omega | (simp [st2]; done) | (simp [st2]; omega)) dX8_rounds_161 ?_
          refine g_aload_n rfl dX8_rounds_162 ?_
          refine gf_X8_59 (c2 := 61) rfl rfl (by first | rfl | assumption) dX8_rounds_163 ?_
          refine g_iload rfl dX8_rounds_166 ?_
          refine g_iald (n := 2000) (itP (pT v) i (k + s)) (by first | rfl | assumption) (by first | rfl | assumption) (by omega) (by first | omega | (simp [st2]; done) | (simp [st2]; omega)) (by first | omega | (simp [st2]; done) | (simp [st2]; omega)) dX8_rounds_168 ?_
          rw [e61]
          refine g_istore (by decide) dX8_rounds_169 ?_
          refine g_iinc rfl (by decide) dX8_rounds_171 ?_
          refine g_goto (t := 142) dX8_rounds_174 (by decide) ?_
          refine g_subl [(0, vR 44), (1, vI (pN v : Int)), (2, vI (k : Int)), (3, vI (k : Int)), (4, vI ((k + W - 1 : Nat) : Int)), (5, vI ((i + 1 : Nat) : Int)), (6, vI ((k + s : Nat) : Int)), (7, vI (itP (pT v) (i + 1) (k + s) : Int))] rfl ?_
          refine ih3 (i + 1) (by omega) (by omega) _ (fun d j hd => by simp only [st2, if_neg hd]; exact hf4 d j hd) (hS4.put.cong (fun p hp => ?_))
          constructor
          · rintro ((z | z | ⟨a, ha, z⟩) | z)
            · exact Or.inl z
            · exact Or.inr (Or.inl z)
            · exact Or.inr (Or.inr ⟨a, by omega, z⟩)
            · exact Or.inr (Or.inr ⟨i, by omega, z⟩)
          · rintro (z | z | ⟨a, ha, z⟩)
            · exact Or.inl (Or.inl z)
            · exact Or.inl (Or.inr (Or.inl z))
            · rcases Nat.lt_or_ge a i with y | y
              · exact Or.inl (Or.inr (Or.inr ⟨a, y, z⟩))
              · exact Or.inr (by rw [z, show a = i by omega])
        · refine g_iload rfl dX8_rounds_147 ?_
          refine g_iload rfl dX8_rounds_149 ?_
          refine g_icmp_eq (t := 177) dX8_rounds_151 (by decide) (by first | omega | (simp [st2]; done) | (simp [st2]; omega)) (by first | omega | (simp [st2]; done) | (simp [st2]; omega)) (fun b151 => ?_) (fun b151 => ?_)
          · have hpe : i = P := by
              rcases Nat.lt_or_ge i P with z | z
              · exact absurd (by omega) (r4 i (by omega) z)
              · omega
            refine g_iinc rfl (by decide) dX8_rounds_177 ?_
            refine g_goto (t := 128) dX8_rounds_180 (by decide) ?_
            refine g_subl [(0, vR 44), (1, vI (pN v : Int)), (2, vI (k : Int)), (3, vI (k : Int)), (4, vI ((k + W - 1 : Nat) : Int)), (5, vI (i : Int)), (6, vI ((k + (s + 1) : Nat) : Int))] rfl ?_
            refine ih2 (s + 1) (by omega) (by omega) X4 i hf4 (hS4.cong (fun p hp => ?_)) (fun _ => hpe) (by omega)
            constructor
            · rintro (z | ⟨a, r, hr2, z⟩ | ⟨a, ha, z⟩)
              · exact Or.inl z
              · exact Or.inr ⟨a, r, by omega, z⟩
              · exact Or.inr ⟨a, s, by omega, z⟩
            · rintro (z | ⟨a, r, hr2, z⟩)
              · exact Or.inl z
              · rcases Nat.lt_or_ge r s with y | y
                · exact Or.inr (Or.inl ⟨a, r, y, z⟩)
                · rw [show r = s by omega] at z
                  obtain ⟨q, hq, e⟩ := itP_mod hP hks a
                  rw [hper] at hq
                  exact Or.inr (Or.inr ⟨q, by omega, by rw [e]; exact z⟩)
          · have hip : i < P := by
              rcases Nat.lt_or_ge i P with z | z
              · exact z
              · exact absurd (by rw [show i = P by omega, r3]) b151
            refine g_aload_n rfl dX8_rounds_154 ?_
            refine gf_X8_65 (c2 := 63) rfl rfl (by first | rfl | assumption) dX8_rounds_155 ?_
            refine g_iload rfl dX8_rounds_158 ?_
            refine g_iconst dX8_rounds_160 ?_
            refine g_zast (n := 2000) (itP (pT v) i (k + s)) (by omega) (by first | rfl | assumption) (by first | rfl | assumption) (by omega) (by first | omega | (simp [st2]; done) | (simp [st2]; omega)) (by first | omega | (simp [st2]; done) | (simp [st2]; omega)) dX8_rounds_161 ?_
            refine g_aload_n rfl dX8_rounds_162 ?_
            refine gf_X8_59 (c2 := 61) rfl rfl (by first | rfl | assumption) dX8_rounds_163 ?_
            refine g_iload rfl dX8_rounds_166 ?_
            refine g_iald (n := 2000) (itP (pT v) i (k + s)) (by first | rfl | assumption) (by first | rfl | assumption) (by omega) (by first | omega | (simp [st2]; done) | (simp [st2]; omega)) (by first | omega | (simp [st2]; done) | (simp [st2]; omega)) dX8_rounds_168 ?_
            rw [e61]
            refine g_istore (by decide) dX8_rounds_169 ?_
            refine g_iinc rfl (by decide) dX8_rounds_171 ?_
            refine g_goto (t := 142) dX8_rounds_174 (by decide) ?_
            refine g_subl [(0, vR 44), (1, vI (pN v : Int)), (2, vI (k : Int)), (3, vI (k : Int)), (4, vI ((k + W - 1 : Nat) : Int)), (5, vI ((i + 1 : Nat) : Int)), (6, vI ((k + s : Nat) : Int)), (7, vI (itP (pT v) (i + 1) (k + s) : Int))] rfl ?_
            refine ih3 (i + 1) (by omega) (by omega) _ (fun d j hd => by simp only [st2, if_neg hd]; exact hf4 d j hd) (hS4.put.cong (fun p hp => ?_))
            constructor
            · rintro ((z | z | ⟨a, ha, z⟩) | z)
              · exact Or.inl z
              · exact Or.inr (Or.inl z)
              · exact Or.inr (Or.inr ⟨a, by omega, z⟩)
              · exact Or.inr (Or.inr ⟨i, by omega, z⟩)
            · rintro (z | z | ⟨a, ha, z⟩)
              · exact Or.inl (Or.inl z)
              · exact Or.inl (Or.inr (Or.inl z))
              · rcases Nat.lt_or_ge a i with y | y
                · exact Or.inl (Or.inr (Or.inr ⟨a, y, z⟩))
                · exact Or.inr (by rw [z, show a = i by omega])
      have z25 : X3 44 25 = (nRd v k : Int) := (hf3 44 25 (by decide)).trans e25
      have hu2 := unP_iff.mpr hun
      have hns := nRd_s v k
      rw [if_pos hu2] at hns
      have hm2 := nRd_mono v (i := k + 1) (j := pN v) (by omega)
      refine g_iload rfl dX8_rounds_128 ?_
      refine g_iload rfl dX8_rounds_130 ?_
      refine g_icmp_gt (t := 183) dX8_rounds_132 (by decide) (by first | omega | (simp [st2]; done) | (simp [st2]; omega)) (by first | omega | (simp [st2]; done) | (simp [st2]; omega)) (fun b132 => ?_) (fun b132 => ?_)
      · obtain rfl : s = W := by omega
        have htP := ht (by omega)
        subst htP
        refine g_aload_n rfl dX8_rounds_183 ?_
        refine gf_X8_50 (c2 := 58) rfl rfl (by first | rfl | assumption) dX8_rounds_184 ?_
        refine g_aload_n rfl dX8_rounds_187 ?_
        refine gf_X8_193 rfl (by first | rfl | assumption) dX8_rounds_188 ?_
        refine g_iload rfl dX8_rounds_191 ?_
        refine g_iload_n rfl dX8_rounds_193 ?_
        refine g_isub dX8_rounds_194 ?_
        refine g_iconst dX8_rounds_195 ?_
        refine g_iadd dX8_rounds_196 ?_
        refine g_iast (n := 2000) (nRd v k) (by first | rfl | assumption) (by first | rfl | assumption) z25 (by first | omega | (simp [st2]; done) | (simp [st2]; omega)) (by first | omega | (simp [st2]; done) | (simp [st2]; omega)) dX8_rounds_197 ?_
        refine g_aload_n rfl dX8_rounds_198 ?_
        refine gf_X8_53 (c2 := 59) rfl rfl (by first | rfl | assumption) dX8_rounds_199 ?_
        refine g_aload_n rfl dX8_rounds_202 ?_
        refine gf_X8_193 rfl (by first | rfl | assumption) dX8_rounds_203 ?_
        refine g_iload rfl dX8_rounds_206 ?_
        refine g_iast (n := 2000) (nRd v k) (by first | rfl | assumption) (by first | rfl | assumption) z25 (by first | omega | (simp [st2]; done) | (simp [st2]; omega)) (by first | omega | (simp [st2]; done) | (simp [st2]; omega)) dX8_rounds_208 ?_
        refine g_aload_n rfl dX8_rounds_209 ?_
        refine gf_X8_56 (c2 := 60) rfl rfl (by first | rfl | assumption) dX8_rounds_210 ?_
        refine g_aload_n rfl dX8_rounds_213 ?_
        refine gf_X8_193 rfl (by first | rfl | assumption) dX8_rounds_214 ?_
        refine g_iload_n rfl dX8_rounds_217 ?_
        refine g_iast (n := 2000) (nRd v k) (by first | rfl | assumption) (by first | rfl | assumption) z25 (by first | omega | (simp [st2]; done) | (simp [st2]; omega)) (by first | omega | (simp [st2]; done) | (simp [st2]; omega)) dX8_rounds_218 ?_
        refine g_aload_n rfl dX8_rounds_219 ?_
        refine g_dup rfl dX8_rounds_220 ?_
        refine gf_X8_193 rfl (by first | rfl | assumption) dX8_rounds_221 ?_
        refine g_iconst dX8_rounds_224 ?_
        refine g_iadd dX8_rounds_225 ?_
        refine pf_X8_193 rfl (by first | rfl | assumption) dX8_rounds_226 ?_
        refine g_iinc rfl (by decide) dX8_rounds_229 ?_
        refine g_goto (t := 63) dX8_rounds_232 (by decide) ?_
        refine g_subl [(0, vR 44), (1, vI (pN v : Int)), (2, vI ((k + 1 : Nat) : Int))] rfl ?_
        refine ih (k + 1) (by omega) (by omega) _ (fun d j hd hq => ?_) (fun p hp => ?_) ?_ ?_ ?_
        · have y1 : d ≠ 58 := by omega
          have y2 : d ≠ 59 := by omega
          have y3 : d ≠ 60 := by omega
          by_cases y4 : d = 44
          · have y5 : j ≠ 25 := fun w => hq ⟨y4, Or.inr w⟩
            subst y4
            simp [st2, y5]
            rw [hf3 44 j (by decide)]
            exact hfr 44 j hd hq
          · simp only [st2, if_neg y1, if_neg y2, if_neg y3, if_neg y4]
            rw [hf3 d j (by omega)]
            exact hfr d j hd hq
        · show X3 61 p = _ ∧ X3 62 p = _
          rw [hf3 61 p (by decide), hf3 62 p (by decide)]
          exact hT p hp
        · refine SeM.cong (Q := fun p => SnP (pN v) (pT v) (pR v) k p ∨ ∃ a r, r < s ∧ p = itP (pT v) a (k + r)) hS3 (fun p hp => ?_)
          rw [sn_s]
          constructor
          · rintro (z | ⟨a, r, hr2, z⟩)
            · exact Or.inl z
            · refine Or.inr ⟨a, r, by omega, ?_⟩
              rw [z]
              exact it_sh hP hkl (by omega) a
          · rintro (z | ⟨a, r, hr2, z⟩)
            · exact Or.inl z
            · refine Or.inr ⟨a, r, by omega, ?_⟩
              rw [z]
              exact (it_sh hP hkl hr2 a).symm
        · show X3 44 25 + 1 = _
          omega
        · refine hRd.add (fun j hj => ?_) ?_ ?_ ?_
          · have a1 := hf3 58 j (by decide)
            have a2 := hf3 59 j (by decide)
            have a3 := hf3 60 j (by decide)
            simp [st2, hj]
            exact ⟨a1, a2, a3⟩
          · simp [st2]
            omega
          · simp [st2]
            omega
          · simp [st2]
      · refine g_iload rfl dX8_rounds_135 ?_
        refine g_istore (by decide) dX8_rounds_137 ?_
        refine g_iconst dX8_rounds_139 ?_
        refine g_istore (by decide) dX8_rounds_140 ?_
        refine g_subl [(0, vR 44), (1, vI (pN v : Int)), (2, vI (k : Int)), (3, vI (k : Int)), (4, vI ((k + W - 1 : Nat) : Int)), (5, vI ((0 : Nat) : Int)), (6, vI ((k + s : Nat) : Int)), (7, vI (itP (pT v) 0 (k + s) : Int))] rfl ?_
        refine inner (by omega) 0 (by omega) X3 hf3 (hS3.cong (fun p hp => ?_))
        constructor
        · rintro (z | z)
          · exact Or.inl z
          · exact Or.inr (Or.inl z)
        · rintro (z | z | ⟨a, ha, z⟩)
          · exact Or.inl z
          · exact Or.inr z
          · omega
    have ends : k < pN v → ¬ SnP (pN v) (pT v) (pR v) k k → ∀ s, s ≤ W - 1 → G l g mX8_rounds κ K 106 [(0, vR 44), (1, vI (pN v : Int)), (2, vI (k : Int)), (3, vI (k : Int)), (4, vI ((k + s : Nat) : Int))] [] X2 := by
      intro hkl hun
      obtain ⟨m1, m2, m3, m4⟩ := mn_spec hP hkl
      rw [← eW] at m1 m3 m4
      refine upTo _ ?_
      intro s hs ih2
      have hsh := mn_sh hP hkl (s := s) (by omega)
      rw [← eW] at hsh
      refine g_aload_n rfl dX8_rounds_106 ?_
      refine g_iload rfl dX8_rounds_107 ?_
      refine g_iload_n rfl dX8_rounds_109 ?_
      refine g_cv2 (M2 := mX8_isJoined) (ci := 8) dX8_rounds_110 ml_RX8_196 kX8_isJoined (by decide) (by first | rfl | assumption) (by decide) rfl (by unfold Rm; decide) (Nat.le_of_ble_eq_true rfl) (ct_X8_isJoined hv hr hN hT hsh.1 (fun q => ?_) (fun q => ?_))
      · refine g_if_eq (t := 122) dX8_rounds_113 (by decide) (by first | omega | (simp [st2]; done) | (simp [st2]; omega)) (fun b113 => ?_) (fun b113 => ?_)
        · exfalso; omega
        · refine g_iinc rfl (by decide) dX8_rounds_116 ?_
          refine g_goto (t := 106) dX8_rounds_119 (by decide) ?_
          refine g_subl [(0, vR 44), (1, vI (pN v : Int)), (2, vI (k : Int)), (3, vI (k : Int)), (4, vI ((k + (s + 1) : Nat) : Int))] rfl ?_
          exact ih2 (s + 1) (by omega) (by omega)
      · refine g_if_eq (t := 122) dX8_rounds_113 (by decide) (by first | omega | (simp [st2]; done) | (simp [st2]; omega)) (fun b113 => ?_) (fun b113 => ?_)
        · refine g_iconst dX8_rounds_122 ?_
          refine g_istore (by decide) dX8_rounds_123 ?_
          refine g_iload_n rfl dX8_rounds_125 ?_
          refine g_istore (by decide) dX8_rounds_126 ?_
          refine g_subl [(0, vR 44), (1, vI (pN v : Int)), (2, vI (k : Int)), (3, vI (k : Int)), (4, vI ((k + W - 1 : Nat) : Int)), (5, vI ((0 : Nat) : Int)), (6, vI ((k + 0 : Nat) : Int))] ?_ ?_
          · rw [show k + W - 1 = k + s by omega]
            rfl
          · refine mark hkl hun 0 (by omega) X2 0 (fun _ _ _ => rfl) (hS.cong (fun p hp => ?_)) (fun z => by omega) (by omega)
            constructor
            · exact Or.inl
            · rintro (z | ⟨a, r, hr2, z⟩)
              · exact z
              · omega
        · exfalso; omega
    refine g_iload_n rfl dX8_rounds_63 ?_
    refine g_iload_n rfl dX8_rounds_64 ?_
    refine g_icmp_ge (t := 235) dX8_rounds_65 (by decide) (by first | omega | (simp [st2]; done) | (simp [st2]; omega)) (by first | omega | (simp [st2]; done) | (simp [st2]; omega)) (fun b65 => ?_) (fun b65 => ?_)
    · obtain rfl : k = pN v := by omega
      refine g_aload_n rfl dX8_rounds_235 ?_
      refine gf_X8_193 rfl (by first | rfl | assumption) dX8_rounds_236 ?_
      refine g_ireturn rfl dX8_rounds_239 ?_
      exact kE (h2 hn0 hr hN0 X2 hfr e25 hRd) e25.symm
    · have hkl : k < pN v := by omega
      refine g_aload_n rfl dX8_rounds_68 ?_
      refine gf_X8_65 (c2 := 63) rfl rfl (by first | rfl | assumption) dX8_rounds_69 ?_
      refine g_iload_n rfl dX8_rounds_72 ?_
      refine g_zald (n := 2000) (_) (by first | rfl | assumption) (by first | rfl | assumption) rfl (by first | omega | (simp [st2]; done) | (simp [st2]; omega)) (by first | omega | (simp [st2]; done) | (simp [st2]; omega)) dX8_rounds_73 ?_
      refine g_if_eq (t := 80) dX8_rounds_74 (by decide) (by
rcases Classical.em (SnP (pN v) (pT v) (pR v) k k) with w | w
· rw [(hS k hkl).1 w]; omega
· rw [(hS k hkl).2 w]; omega) (fun b74 => ?_) (fun b74 => ?_)
      · have hun : ¬ SnP (pN v) (pT v) (pR v) k k := fun w => by
          have := (hS k hkl).1 w
          omega
        have hW1 := (mn_spec hP hkl).2.2.1
        refine g_iload_n rfl dX8_rounds_80 ?_
        refine g_istore_n (by decide) dX8_rounds_81 ?_
        refine g_iload_n rfl dX8_rounds_82 ?_
        refine g_if_le (t := 103) dX8_rounds_83 (by decide) (by first | omega | (simp [st2]; done) | (simp [st2]; omega)) (fun b83 => ?_) (fun b83 => ?_)
        · refine g_iload_n rfl dX8_rounds_103 ?_
          refine g_istore (by decide) dX8_rounds_104 ?_
          refine g_subl [(0, vR 44), (1, vI (pN v : Int)), (2, vI (k : Int)), (3, vI (k : Int)), (4, vI ((k + 0 : Nat) : Int))] rfl ?_
          exact ends hkl hun 0 (by omega)
        · refine g_aload_n rfl dX8_rounds_86 ?_
          refine g_iload_n rfl dX8_rounds_87 ?_
          refine g_iconst dX8_rounds_88 ?_
          refine g_isub dX8_rounds_89 ?_
          refine g_iload_n rfl dX8_rounds_90 ?_
          rw [show (k : Int) - 1 = ((k - 1 : Nat) : Int) by omega]
          have hfi := un_first hun (by omega)
          refine g_cv2 (M2 := mX8_isJoined) (ci := 8) dX8_rounds_91 ml_RX8_196 kX8_isJoined (by decide) (by first | rfl | assumption) (by decide) rfl (by unfold Rm; decide) (Nat.le_of_ble_eq_true rfl) (ct_X8_isJoined hv hr hN hT (by omega) (fun q => absurd q (by omega)) (fun q => ?_))
          refine g_if_eq (t := 103) dX8_rounds_94 (by decide) (by first | omega | (simp [st2]; done) | (simp [st2]; omega)) (fun b94 => ?_) (fun b94 => ?_)
          · refine g_iload_n rfl dX8_rounds_103 ?_
            refine g_istore (by decide) dX8_rounds_104 ?_
            refine g_subl [(0, vR 44), (1, vI (pN v : Int)), (2, vI (k : Int)), (3, vI (k : Int)), (4, vI ((k + 0 : Nat) : Int))] rfl ?_
            exact ends hkl hun 0 (by omega)
          · exfalso; omega
      · have hsn : SnP (pN v) (pT v) (pR v) k k := by
          rcases Classical.em (SnP (pN v) (pT v) (pR v) k k) with w | w
          · exact w
          · exact absurd ((hS k hkl).2 w) b74
        refine g_goto (t := 229) dX8_rounds_77 (by decide) ?_
        refine g_iinc rfl (by decide) dX8_rounds_229 ?_
        refine g_goto (t := 63) dX8_rounds_232 (by decide) ?_
        have hu2 : ¬ unP (pN v) (pT v) (pR v) k = true := fun w => unP_iff.mp w hsn
        have hns := nRd_s v k
        rw [if_neg hu2, Nat.add_zero] at hns
        refine g_subl [(0, vR 44), (1, vI (pN v : Int)), (2, vI ((k + 1 : Nat) : Int))] rfl ?_
        exact ih (k + 1) (by omega) (by omega) X2 hfr hT (hS.cong (fun p hp => (sn_skip hP hkl hsn p).symm)) (by rw [hns]; exact e25) (hRd.skip hu2)
  have loop0 : ∀ X1, FrR X X1 → ToM X1 v → ∀ k, k ≤ pN v → ∀ X2, (∀ d j, d ≠ 63 → X2 d j = X1 d j) → (∀ p : Nat, p < k → X2 63 p = 0) → G l g mX8_rounds κ K 38 [(0, vR 44), (1, vI (pN v : Int)), (2, vI (k : Int))] [] X2 := by
    intro X1 hfr1 hT1
    refine upTo _ ?_
    intro k hkN ih X2 hf2 hz
    refine g_iload_n rfl dX8_rounds_38 ?_
    refine g_iload_n rfl dX8_rounds_39 ?_
    refine g_icmp_ge (t := 56) dX8_rounds_40 (by decide) (by first | omega | (simp [st2]; done) | (simp [st2]; omega)) (by first | omega | (simp [st2]; done) | (simp [st2]; omega)) (fun b40 => ?_) (fun b40 => ?_)
    · refine g_aload_n rfl dX8_rounds_56 ?_
      refine g_iconst dX8_rounds_57 ?_
      refine pf_X8_193 rfl (by first | rfl | assumption) dX8_rounds_58 ?_
      refine g_iconst dX8_rounds_61 ?_
      refine g_istore_n (by decide) dX8_rounds_62 ?_
      refine g_subl [(0, vR 44), (1, vI (pN v : Int)), (2, vI ((0 : Nat) : Int))] rfl ?_
      refine loop 0 (by omega) _ (fun d j hd hq => ?_) (fun p hp => ?_) (fun p hp => ?_) rfl (fun q hq => by omega)
      · by_cases y4 : d = 44
        · have y5 : j ≠ 25 := fun w => hq ⟨y4, Or.inr w⟩
          subst y4
          simp [st2, y5]
          rw [hf2 44 j (by decide)]
          exact hfr1 44 j hd hq
        · simp only [st2, if_neg y4]
          rw [hf2 d j (by omega)]
          exact hfr1 d j hd hq
      · show X2 61 p = _ ∧ X2 62 p = _
        rw [hf2 61 p (by decide), hf2 62 p (by decide)]
        exact hT1 p hp
      · refine ⟨fun ⟨q, hq, _⟩ => by omega, fun _ => ?_⟩
        show X2 63 p = 0
        exact hz p (by omega)
    · refine g_aload_n rfl dX8_rounds_43 ?_
      refine gf_X8_65 (c2 := 63) rfl rfl (by first | rfl | assumption) dX8_rounds_44 ?_
      refine g_iload_n rfl dX8_rounds_47 ?_
      refine g_iconst dX8_rounds_48 ?_
      refine g_zast (n := 2000) (_) (by omega) (by first | rfl | assumption) (by first | rfl | assumption) rfl (by first | omega | (simp [st2]; done) | (simp [st2]; omega)) (by first | omega | (simp [st2]; done) | (simp [st2]; omega)) dX8_rounds_49 ?_
      refine g_iinc rfl (by decide) dX8_rounds_50 ?_
      refine g_goto (t := 38) dX8_rounds_53 (by decide) ?_
      refine g_subl [(0, vR 44), (1, vI (pN v : Int)), (2, vI ((k + 1 : Nat) : Int))] rfl ?_
      refine ih (k + 1) (by omega) (by omega) _ (fun d j hd => by simp only [st2, if_neg hd]; exact hf2 d j hd) (fun p hp => ?_)
      by_cases z : p = k
      · simp [st2, z]
      · simp [st2, z]
        exact hz p (by omega)
  refine g_aload_n rfl dX8_rounds_0 ?_
  refine gf_X8_94 rfl (by first | rfl | assumption) dX8_rounds_1 ?_
  refine g_if_ne (t := 9) dX8_rounds_4 (by decide) (by first | omega | (simp [st2]; done) | (simp [st2]; omega)) (fun b4 => ?_) (fun b4 => ?_)
  · refine g_aload_n rfl dX8_rounds_9 ?_
    refine gf_X8_87 rfl (by first | rfl | assumption) dX8_rounds_10 ?_
    refine g_if_ne (t := 28) dX8_rounds_13 (by decide) (by first | omega | (simp [st2]; done) | (simp [st2]; omega)) (fun b13 => ?_) (fun b13 => ?_)
    · exfalso; omega
    · refine g_aload_n rfl dX8_rounds_16 ?_
      refine g_iconst dX8_rounds_17 ?_
      refine g_cv1 (M2 := mX8_total) (ci := 8) dX8_rounds_18 ml_RX8_124 kX8_total (by decide) (by first | rfl | assumption) (by decide) rfl (by unfold Rm; decide) (Nat.le_of_ble_eq_true rfl) (ct_X8_total (by omega) x1 hn8 ?_)
      rw [tA_pN hX hv]
      refine g_ldc2 (n := (2000)) kc_RX8_188 dX8_rounds_21 ?_
      refine g_lle (t := 31) dX8_rounds_24 dX8_rounds_25 (by decide) (by first | omega | (simp [st2]; done) | (simp [st2]; omega)) (by first | omega | (simp [st2]; done) | (simp [st2]; omega)) (fun b24 => ?_) (fun b24 => ?_)
      · refine g_aload_n rfl dX8_rounds_31 ?_
        refine g_cv0 (M2 := mX8_pieces) (ci := 8) dX8_rounds_32 ml_RX8_190 kX8_pieces (by decide) (by first | rfl | assumption) (by decide) rfl (by unfold Rm; decide) (Nat.le_of_ble_eq_true rfl) (ct_X8_pieces hX hv hr hN (fun X1 hfr1 e25 e58 hT1 => ?_))
        refine g_istore_n (by decide) dX8_rounds_35 ?_
        refine g_iconst dX8_rounds_36 ?_
        refine g_istore_n (by decide) dX8_rounds_37 ?_
        refine g_subl [(0, vR 44), (1, vI (pN v : Int)), (2, vI ((0 : Nat) : Int))] rfl ?_
        exact loop0 X1 hfr1 hT1 0 (by omega) X1 (fun _ _ _ => rfl) (fun p hp => by omega)
      · exfalso; omega
  · exfalso; omega
