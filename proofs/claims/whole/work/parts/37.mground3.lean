set_option maxRecDepth 100000 in
set_option maxHeartbeats 4000000 in
theorem ct_X8_ground {l : Launch} {g : Geo} {X : Mm} {K : AV → Mm → Prop} {v : Mv} {w : Int} (hw : -2147483648 ≤ w ∧ w < 2147483648) (hX : MvM X v) (hv : vn v ≠ 0 → Vd v) (h0 : (vn v = 0 ∨ w < 0 ∨ 3 < w) → K (vI (-1)) X) (h1 : vn v ≠ 0 → (0 ≤ w ∧ w ≤ 3) → ∀ X2, (∀ d j, d ≠ 69 → X2 d j = X d j) → K (vI (gdR (vn v) w (nPt (lbM v (vn v)) (2 * vn v)) (mTf (lbM v (vn v)) (vn v) (2 * vn v)) (nOn (lbM v (vn v)) (vn v) (2 * vn v)))) X2) : Ct l g mX8_ground [vR 44, vI w] X K := by
  refine enter (by decide) (Nat.le_of_ble_eq_true rfl) (fun κ => ?_)
  have x1 := hX.1
  rcases Nat.eq_zero_or_pos (vn v) with hz | hz
  · have hz2 := hz
    refine g_aload_n rfl dX8_ground_0 ?_
    refine gf_X8_94 rfl (by first | rfl | assumption) dX8_ground_1 ?_
    refine g_if_eq (t := 16) dX8_ground_4 (by decide) (by first | omega | (simp [st2]; done) | (simp [st2]; omega)) (fun b4 => ?_) (fun b4 => ?_)
    · refine g_iconst dX8_ground_16 ?_
      refine g_ireturn rfl dX8_ground_17 ?_
      exact h0 (Or.inl hz)
    · exfalso; omega
  · have hv := hv (by omega)
    have hn8 := hv.2.1
    have hn2 := hv.1
    have hpa := hv.2.2.2.2.1
    have hpu := hv.2.2.2.2.2.1
    obtain ⟨h, eh⟩ : ∃ h, h = lbM v (vn v) := ⟨_, rfl⟩
    have hh : ∀ c, h (h c) = h c := by rw [eh]; exact lbM_idem v _
    have hl : ∀ c, c < 2 * vn v → h c < 2 * vn v := by rw [eh]; exact lbM_lt hv _ (Nat.le_refl _)
    rw [← eh] at h1
    have tb : ∀ c k, tuK h (vn v) c k ≤ k := fun c k => fb_ct_le _ _
    have pb : ∀ k, nPt h k ≤ k := fun k => fb_ct_le _ _
    have ob : ∀ k, nOn h (vn v) k ≤ k := fun k => fb_ct_le _ _
    have mb : ∀ k, mTf h (vn v) k ≤ 8 := fun k => by
      rcases mTf_is h (vn v) k with z | ⟨c, _, _, z⟩
      · omega
      · have := nTu_le h (vn v) c
        omega
    have loopC : (0 ≤ w ∧ w ≤ 3) → ∀ c, c ≤ 2 * vn v → ∀ X2, (∀ d j, d ≠ 69 → X2 d j = X d j) → Rw X2 69 (2 * vn v) h → G l g mX8_ground κ K 128 [(0, vR 44), (1, vI w), (2, vI (nPt h c : Int)), (3, vI (mTf h (vn v) c : Int)), (4, vI (nOn h (vn v) c : Int)), (5, vI (c : Int))] [] X2 := by
      intro hw3
      refine upTo (2 * vn v) ?_
      intro c hc ih X2 hfr hrow
      have z5 : X2 44 5 = (vn v : Int) := (hfr 44 5 (by decide)).trans x1
      have b1 := pb c
      have b2 := ob c
      have b3 := mb c
      have sP : nPt h (c + 1) = nPt h c + (if (h c == c) = true then 1 else 0) := fb_ct_succ _ _
      have sO : nOn h (vn v) (c + 1) = nOn h (vn v) c + (if (h c == c && nTu h (vn v) c == 1) = true then 1 else 0) := fb_ct_succ _ _
      have sM : mTf h (vn v) (c + 1) = if h c = c ∧ mTf h (vn v) c < nTu h (vn v) c then nTu h (vn v) c else mTf h (vn v) c := rfl
      have inner : c < 2 * vn v → ∀ k, k ≤ 2 * vn v → G l g mX8_ground κ K 148 [(0, vR 44), (1, vI w), (2, vI (nPt h c : Int)), (3, vI (mTf h (vn v) c : Int)), (4, vI (nOn h (vn v) c : Int)), (5, vI (c : Int)), (6, vI (inK h c k)), (7, vI (tuK h (vn v) c k : Int)), (8, vI (k : Int))] [] X2 := by
        intro hcn
        refine upTo (2 * vn v) ?_
        intro k hk ih2
        have b4 := tb c k
        have sT : tuK h (vn v) c (k + 1) = tuK h (vn v) c k + (if (h k == c && (decide (0 < k) && decide (k < vn v))) = true then 1 else 0) := fb_ct_succ _ _
        have sI : fb_ct (fun j => h j == c) (k + 1) = fb_ct (fun j => h j == c) k + (if (h k == c) = true then 1 else 0) := fb_ct_succ _ _
        have ir : inK h c k = 0 ∨ inK h c k = 1 := by unfold inK; split <;> omega
        refine g_iload rfl dX8_ground_148 ?_
        refine g_iconst dX8_ground_150 ?_
        refine g_aload_n rfl dX8_ground_151 ?_
        refine gf_X8_94 rfl (by first | rfl | assumption) dX8_ground_152 ?_
        refine g_imul dX8_ground_155 ?_
        refine g_icmp_ge (t := 200) dX8_ground_156 (by decide) (by first | omega | (simp [st2]; done) | (simp [st2]; omega)) (by first | omega | (simp [st2]; done) | (simp [st2]; omega)) (fun b156 => ?_) (fun b156 => ?_)
        · obtain rfl : k = 2 * vn v := by omega
          have eN := inK_n (h := h) hh hcn
          refine g_iload rfl dX8_ground_200 ?_
          refine g_if_ne (t := 208) dX8_ground_202 (by decide) (by first | omega | (simp [st2]; done) | (simp [st2]; omega)) (fun b202 => ?_) (fun b202 => ?_)
          · have e9 : h c = c := by
              by_cases z : h c = c
              · exact z
              · rw [if_neg z] at eN; omega
            have eTn := tuK_n (h := h) (n := vn v) (by omega) e9 (2 * vn v) (by omega)
            have tl := nTu_le h (vn v) c
            rw [if_pos (by simpa using e9)] at sP
            refine g_iinc rfl (by decide) dX8_ground_208 ?_
            refine g_iload rfl dX8_ground_211 ?_
            refine g_iload_n rfl dX8_ground_213 ?_
            refine g_icmp_le (t := 220) dX8_ground_214 (by decide) (by first | omega | (simp [st2]; done) | (simp [st2]; omega)) (by first | omega | (simp [st2]; done) | (simp [st2]; omega)) (fun b214 => ?_) (fun b214 => ?_)
            · refine g_iload rfl dX8_ground_220 ?_
              refine g_iconst dX8_ground_222 ?_
              refine g_icmp_ne (t := 229) dX8_ground_223 (by decide) (by first | omega | (simp [st2]; done) | (simp [st2]; omega)) (by first | omega | (simp [st2]; done) | (simp [st2]; omega)) (fun b223 => ?_) (fun b223 => ?_)
              · refine g_iinc rfl (by decide) dX8_ground_229 ?_
                refine g_goto (t := 128) dX8_ground_232 (by decide) ?_
                first
                  | (refine g_subl [(0, vR 44), (1, vI w), (2, vI (nPt h (c + 1) : Int)), (3, vI (mTf h (vn v) (c + 1) : Int)), (4, vI (nOn h (vn v) (c + 1) : Int)), (5, vI ((c + 1 : Nat) : Int))] (by rw [sP, sO, sM]; rfl) ?_
                     exact ih (c + 1) (by omega) (by omega) X2 hfr hrow)
                  | (rw [if_neg (by simp [e9]; omega)] at sO
                     rw [if_neg (by omega)] at sM
                     refine g_subl [(0, vR 44), (1, vI w), (2, vI (nPt h (c + 1) : Int)), (3, vI (mTf h (vn v) (c + 1) : Int)), (4, vI (nOn h (vn v) (c + 1) : Int)), (5, vI ((c + 1 : Nat) : Int))] (by rw [sP, sO, sM]; rfl) ?_
                     exact ih (c + 1) (by omega) (by omega) X2 hfr hrow)
                  | (rw [if_pos (by simp [e9]; omega)] at sO
                     rw [if_neg (by omega)] at sM
                     refine g_subl [(0, vR 44), (1, vI w), (2, vI (nPt h (c + 1) : Int)), (3, vI (mTf h (vn v) (c + 1) : Int)), (4, vI (nOn h (vn v) (c + 1) : Int)), (5, vI ((c + 1 : Nat) : Int))] (by rw [sP, sO, sM]; rfl) ?_
                     exact ih (c + 1) (by omega) (by omega) X2 hfr hrow)
                  | (rw [if_neg (by simp [e9]; omega)] at sO
                     rw [if_pos (by omega)] at sM
                     refine g_subl [(0, vR 44), (1, vI w), (2, vI (nPt h (c + 1) : Int)), (3, vI (mTf h (vn v) (c + 1) : Int)), (4, vI (nOn h (vn v) (c + 1) : Int)), (5, vI ((c + 1 : Nat) : Int))] (by rw [sP, sO, sM, ← eTn]; rfl) ?_
                     exact ih (c + 1) (by omega) (by omega) X2 hfr hrow)
                  | (rw [if_pos (by simp [e9]; omega)] at sO
                     rw [if_pos (by omega)] at sM
                     refine g_subl [(0, vR 44), (1, vI w), (2, vI (nPt h (c + 1) : Int)), (3, vI (mTf h (vn v) (c + 1) : Int)), (4, vI (nOn h (vn v) (c + 1) : Int)), (5, vI ((c + 1 : Nat) : Int))] (by rw [sP, sO, sM, ← eTn]; rfl) ?_
                     exact ih (c + 1) (by omega) (by omega) X2 hfr hrow)
              · refine g_iinc rfl (by decide) dX8_ground_226 ?_
                refine g_iinc rfl (by decide) dX8_ground_229 ?_
                refine g_goto (t := 128) dX8_ground_232 (by decide) ?_
                first
                  | (refine g_subl [(0, vR 44), (1, vI w), (2, vI (nPt h (c + 1) : Int)), (3, vI (mTf h (vn v) (c + 1) : Int)), (4, vI (nOn h (vn v) (c + 1) : Int)), (5, vI ((c + 1 : Nat) : Int))] (by rw [sP, sO, sM]; rfl) ?_
                     exact ih (c + 1) (by omega) (by omega) X2 hfr hrow)
                  | (rw [if_neg (by simp [e9]; omega)] at sO
                     rw [if_neg (by omega)] at sM
                     refine g_subl [(0, vR 44), (1, vI w), (2, vI (nPt h (c + 1) : Int)), (3, vI (mTf h (vn v) (c + 1) : Int)), (4, vI (nOn h (vn v) (c + 1) : Int)), (5, vI ((c + 1 : Nat) : Int))] (by rw [sP, sO, sM]; rfl) ?_
                     exact ih (c + 1) (by omega) (by omega) X2 hfr hrow)
                  | (rw [if_pos (by simp [e9]; omega)] at sO
                     rw [if_neg (by omega)] at sM
                     refine g_subl [(0, vR 44), (1, vI w), (2, vI (nPt h (c + 1) : Int)), (3, vI (mTf h (vn v) (c + 1) : Int)), (4, vI (nOn h (vn v) (c + 1) : Int)), (5, vI ((c + 1 : Nat) : Int))] (by rw [sP, sO, sM]; rfl) ?_
                     exact ih (c + 1) (by omega) (by omega) X2 hfr hrow)
                  | (rw [if_neg (by simp [e9]; omega)] at sO
                     rw [if_pos (by omega)] at sM
                     refine g_subl [(0, vR 44), (1, vI w), (2, vI (nPt h (c + 1) : Int)), (3, vI (mTf h (vn v) (c + 1) : Int)), (4, vI (nOn h (vn v) (c + 1) : Int)), (5, vI ((c + 1 : Nat) : Int))] (by rw [sP, sO, sM, ← eTn]; rfl) ?_
                     exact ih (c + 1) (by omega) (by omega) X2 hfr hrow)
                  | (rw [if_pos (by simp [e9]; omega)] at sO
                     rw [if_pos (by omega)] at sM
                     refine g_subl [(0, vR 44), (1, vI w), (2, vI (nPt h (c + 1) : Int)), (3, vI (mTf h (vn v) (c + 1) : Int)), (4, vI (nOn h (vn v) (c + 1) : Int)), (5, vI ((c + 1 : Nat) : Int))] (by rw [sP, sO, sM, ← eTn]; rfl) ?_
                     exact ih (c + 1) (by omega) (by omega) X2 hfr hrow)
            · refine g_iload rfl dX8_ground_217 ?_
              refine g_istore_n (by decide) dX8_ground_219 ?_
              refine g_iload rfl dX8_ground_220 ?_
              refine g_iconst dX8_ground_222 ?_
              refine g_icmp_ne (t := 229) dX8_ground_223 (by decide) (by first | omega | (simp [st2]; done) | (simp [st2]; omega)) (by first | omega | (simp [st2]; done) | (simp [st2]; omega)) (fun b223 => ?_) (fun b223 => ?_)
              · refine g_iinc rfl (by decide) dX8_ground_229 ?_
                refine g_goto (t := 128) dX8_ground_232 (by decide) ?_
                first
                  | (refine g_subl [(0, vR 44), (1, vI w), (2, vI (nPt h (c + 1) : Int)), (3, vI (mTf h (vn v) (c + 1) : Int)), (4, vI (nOn h (vn v) (c + 1) : Int)), (5, vI ((c + 1 : Nat) : Int))] (by rw [sP, sO, sM]; rfl) ?_
                     exact ih (c + 1) (by omega) (by omega) X2 hfr hrow)
                  | (rw [if_neg (by simp [e9]; omega)] at sO
                     rw [if_neg (by omega)] at sM
                     refine g_subl [(0, vR 44), (1, vI w), (2, vI (nPt h (c + 1) : Int)), (3, vI (mTf h (vn v) (c + 1) : Int)), (4, vI (nOn h (vn v) (c + 1) : Int)), (5, vI ((c + 1 : Nat) : Int))] (by rw [sP, sO, sM]; rfl) ?_
                     exact ih (c + 1) (by omega) (by omega) X2 hfr hrow)
                  | (rw [if_pos (by simp [e9]; omega)] at sO
                     rw [if_neg (by omega)] at sM
                     refine g_subl [(0, vR 44), (1, vI w), (2, vI (nPt h (c + 1) : Int)), (3, vI (mTf h (vn v) (c + 1) : Int)), (4, vI (nOn h (vn v) (c + 1) : Int)), (5, vI ((c + 1 : Nat) : Int))] (by rw [sP, sO, sM]; rfl) ?_
                     exact ih (c + 1) (by omega) (by omega) X2 hfr hrow)
                  | (rw [if_neg (by simp [e9]; omega)] at sO
                     rw [if_pos (by omega)] at sM
                     refine g_subl [(0, vR 44), (1, vI w), (2, vI (nPt h (c + 1) : Int)), (3, vI (mTf h (vn v) (c + 1) : Int)), (4, vI (nOn h (vn v) (c + 1) : Int)), (5, vI ((c + 1 : Nat) : Int))] (by rw [sP, sO, sM, ← eTn]; rfl) ?_
                     exact ih (c + 1) (by omega) (by omega) X2 hfr hrow)
                  | (rw [if_pos (by simp [e9]; omega)] at sO
                     rw [if_pos (by omega)] at sM
                     refine g_subl [(0, vR 44), (1, vI w), (2, vI (nPt h (c + 1) : Int)), (3, vI (mTf h (vn v) (c + 1) : Int)), (4, vI (nOn h (vn v) (c + 1) : Int)), (5, vI ((c + 1 : Nat) : Int))] (by rw [sP, sO, sM, ← eTn]; rfl) ?_
                     exact ih (c + 1) (by omega) (by omega) X2 hfr hrow)
              · refine g_iinc rfl (by decide) dX8_ground_226 ?_
                refine g_iinc rfl (by decide) dX8_ground_229 ?_
                refine g_goto (t := 128) dX8_ground_232 (by decide) ?_
                first
                  | (refine g_subl [(0, vR 44), (1, vI w), (2, vI (nPt h (c + 1) : Int)), (3, vI (mTf h (vn v) (c + 1) : Int)), (4, vI (nOn h (vn v) (c + 1) : Int)), (5, vI ((c + 1 : Nat) : Int))] (by rw [sP, sO, sM]; rfl) ?_
                     exact ih (c + 1) (by omega) (by omega) X2 hfr hrow)
                  | (rw [if_neg (by simp [e9]; omega)] at sO
                     rw [if_neg (by omega)] at sM
                     refine g_subl [(0, vR 44), (1, vI w), (2, vI (nPt h (c + 1) : Int)), (3, vI (mTf h (vn v) (c + 1) : Int)), (4, vI (nOn h (vn v) (c + 1) : Int)), (5, vI ((c + 1 : Nat) : Int))] (by rw [sP, sO, sM]; rfl) ?_
                     exact ih (c + 1) (by omega) (by omega) X2 hfr hrow)
                  | (rw [if_pos (by simp [e9]; omega)] at sO
                     rw [if_neg (by omega)] at sM
                     refine g_subl [(0, vR 44), (1, vI w), (2, vI (nPt h (c + 1) : Int)), (3, vI (mTf h (vn v) (c + 1) : Int)), (4, vI (nOn h (vn v) (c + 1) : Int)), (5, vI ((c + 1 : Nat) : Int))] (by rw [sP, sO, sM]; rfl) ?_
                     exact ih (c + 1) (by omega) (by omega) X2 hfr hrow)
                  | (rw [if_neg (by simp [e9]; omega)] at sO
                     rw [if_pos (by omega)] at sM
                     refine g_subl [(0, vR 44), (1, vI w), (2, vI (nPt h (c + 1) : Int)), (3, vI (mTf h (vn v) (c + 1) : Int)), (4, vI (nOn h (vn v) (c + 1) : Int)), (5, vI ((c + 1 : Nat) : Int))] (by rw [sP, sO, sM, ← eTn]; rfl) ?_
                     exact ih (c + 1) (by omega) (by omega) X2 hfr hrow)
                  | (rw [if_pos (by simp [e9]; omega)] at sO
                     rw [if_pos (by omega)] at sM
                     refine g_subl [(0, vR 44), (1, vI w), (2, vI (nPt h (c + 1) : Int)), (3, vI (mTf h (vn v) (c + 1) : Int)), (4, vI (nOn h (vn v) (c + 1) : Int)), (5, vI ((c + 1 : Nat) : Int))] (by rw [sP, sO, sM, ← eTn]; rfl) ?_
                     exact ih (c + 1) (by omega) (by omega) X2 hfr hrow)
          · have e9 : ¬ h c = c := fun z => by rw [if_pos z] at eN; omega
            rw [if_neg (by simpa using e9)] at sP
            rw [if_neg (by simp; intro q; exact absurd q e9)] at sO
            rw [if_neg (fun q => e9 q.1)] at sM
            refine g_goto (t := 229) dX8_ground_205 (by decide) ?_
            refine g_iinc rfl (by decide) dX8_ground_229 ?_
            refine g_goto (t := 128) dX8_ground_232 (by decide) ?_
            first
              | (refine g_subl [(0, vR 44), (1, vI w), (2, vI (nPt h (c + 1) : Int)), (3, vI (mTf h (vn v) (c + 1) : Int)), (4, vI (nOn h (vn v) (c + 1) : Int)), (5, vI ((c + 1 : Nat) : Int))] (by rw [sP, sO, sM]; rfl) ?_
                 exact ih (c + 1) (by omega) (by omega) X2 hfr hrow)
              | (rw [if_neg (by simp [e9]; omega)] at sO
                 rw [if_neg (by omega)] at sM
                 refine g_subl [(0, vR 44), (1, vI w), (2, vI (nPt h (c + 1) : Int)), (3, vI (mTf h (vn v) (c + 1) : Int)), (4, vI (nOn h (vn v) (c + 1) : Int)), (5, vI ((c + 1 : Nat) : Int))] (by rw [sP, sO, sM]; rfl) ?_
                 exact ih (c + 1) (by omega) (by omega) X2 hfr hrow)
              | (rw [if_pos (by simp [e9]; omega)] at sO
                 rw [if_neg (by omega)] at sM
                 refine g_subl [(0, vR 44), (1, vI w), (2, vI (nPt h (c + 1) : Int)), (3, vI (mTf h (vn v) (c + 1) : Int)), (4, vI (nOn h (vn v) (c + 1) : Int)), (5, vI ((c + 1 : Nat) : Int))] (by rw [sP, sO, sM]; rfl) ?_
                 exact ih (c + 1) (by omega) (by omega) X2 hfr hrow)
              | (rw [if_neg (by simp [e9]; omega)] at sO
                 rw [if_pos (by omega)] at sM
                 refine g_subl [(0, vR 44), (1, vI w), (2, vI (nPt h (c + 1) : Int)), (3, vI (mTf h (vn v) (c + 1) : Int)), (4, vI (nOn h (vn v) (c + 1) : Int)), (5, vI ((c + 1 : Nat) : Int))] (by rw [sP, sO, sM, ← eTn]; rfl) ?_
                 exact ih (c + 1) (by omega) (by omega) X2 hfr hrow)
              | (rw [if_pos (by simp [e9]; omega)] at sO
                 rw [if_pos (by omega)] at sM
                 refine g_subl [(0, vR 44), (1, vI w), (2, vI (nPt h (c + 1) : Int)), (3, vI (mTf h (vn v) (c + 1) : Int)), (4, vI (nOn h (vn v) (c + 1) : Int)), (5, vI ((c + 1 : Nat) : Int))] (by rw [sP, sO, sM, ← eTn]; rfl) ?_
                 exact ih (c + 1) (by omega) (by omega) X2 hfr hrow)
        · have er := hrow k (by omega)
          have lk := hl k (by omega)
          refine g_aload_n rfl dX8_ground_159 ?_
          refine gf_X8_84 (c2 := 69) rfl rfl (by first | rfl | assumption) dX8_ground_160 ?_
          refine g_iload rfl dX8_ground_163 ?_
          refine g_iald (n := 16) (_) (by first | rfl | assumption) (by first | rfl | assumption) rfl (by first | omega | (simp [st2]; done) | (simp [st2]; omega)) (by first | omega | (simp [st2]; done) | (simp [st2]; omega)) dX8_ground_165 ?_
          refine g_iload rfl dX8_ground_166 ?_
          refine g_icmp_eq (t := 174) dX8_ground_168 (by decide) (by first | omega | (simp [st2]; done) | (simp [st2]; omega)) (by first | omega | (simp [st2]; done) | (simp [st2]; omega)) (fun b168 => ?_) (fun b168 => ?_)
          · have e1 : h k = c := by omega
            have eI : inK h c (k + 1) = 1 := by
              unfold inK
              rw [if_pos (by rw [sI, if_pos (by simpa using e1)]; omega)]
            have eT : tuK h (vn v) c (k + 1) = tuK h (vn v) c k + if 0 < k ∧ k < vn v then 1 else 0 := by
              rw [sT]
              congr 1
              by_cases z : 0 < k ∧ k < vn v
              · rw [if_pos (by simp [e1, z]), if_pos z]
              · rw [if_neg (by simp [e1]; omega), if_neg z]
            refine g_iconst dX8_ground_174 ?_
            refine g_istore (by decide) dX8_ground_175 ?_
            refine g_iload rfl dX8_ground_177 ?_
            refine g_if_le (t := 194) dX8_ground_179 (by decide) (by first | omega | (simp [st2]; done) | (simp [st2]; omega)) (fun b179 => ?_) (fun b179 => ?_)
            · refine g_iinc rfl (by decide) dX8_ground_194 ?_
              refine g_goto (t := 148) dX8_ground_197 (by decide) ?_
              first
                | (refine g_subl [(0, vR 44), (1, vI w), (2, vI (nPt h c : Int)), (3, vI (mTf h (vn v) c : Int)), (4, vI (nOn h (vn v) c : Int)), (5, vI (c : Int)), (6, vI (inK h c (k + 1))), (7, vI (tuK h (vn v) c (k + 1) : Int)), (8, vI ((k + 1 : Nat) : Int))] (by rw [eI, eT]; rfl) ?_
                   exact ih2 (k + 1) (by omega) (by omega))
                | (rw [if_neg (by omega)] at eT
                   refine g_subl [(0, vR 44), (1, vI w), (2, vI (nPt h c : Int)), (3, vI (mTf h (vn v) c : Int)), (4, vI (nOn h (vn v) c : Int)), (5, vI (c : Int)), (6, vI (inK h c (k + 1))), (7, vI (tuK h (vn v) c (k + 1) : Int)), (8, vI ((k + 1 : Nat) : Int))] (by rw [eI, eT]; rfl) ?_
                   exact ih2 (k + 1) (by omega) (by omega))
                | (rw [if_pos (by omega)] at eT
                   refine g_subl [(0, vR 44), (1, vI w), (2, vI (nPt h c : Int)), (3, vI (mTf h (vn v) c : Int)), (4, vI (nOn h (vn v) c : Int)), (5, vI (c : Int)), (6, vI (inK h c (k + 1))), (7, vI (tuK h (vn v) c (k + 1) : Int)), (8, vI ((k + 1 : Nat) : Int))] (by rw [eI, eT]; rfl) ?_
                   exact ih2 (k + 1) (by omega) (by omega))
            · refine g_iload rfl dX8_ground_182 ?_
              refine g_aload_n rfl dX8_ground_184 ?_
              refine gf_X8_94 rfl (by first | rfl | assumption) dX8_ground_185 ?_
              refine g_icmp_ge (t := 194) dX8_ground_188 (by decide) (by first | omega | (simp [st2]; done) | (simp [st2]; omega)) (by first | omega | (simp [st2]; done) | (simp [st2]; omega)) (fun b188 => ?_) (fun b188 => ?_)
              · refine g_iinc rfl (by decide) dX8_ground_194 ?_
                refine g_goto (t := 148) dX8_ground_197 (by decide) ?_
                first
                  | (refine g_subl [(0, vR 44), (1, vI w), (2, vI (nPt h c : Int)), (3, vI (mTf h (vn v) c : Int)), (4, vI (nOn h (vn v) c : Int)), (5, vI (c : Int)), (6, vI (inK h c (k + 1))), (7, vI (tuK h (vn v) c (k + 1) : Int)), (8, vI ((k + 1 : Nat) : Int))] (by rw [eI, eT]; rfl) ?_
                     exact ih2 (k + 1) (by omega) (by omega))
                  | (rw [if_neg (by omega)] at eT
                     refine g_subl [(0, vR 44), (1, vI w), (2, vI (nPt h c : Int)), (3, vI (mTf h (vn v) c : Int)), (4, vI (nOn h (vn v) c : Int)), (5, vI (c : Int)), (6, vI (inK h c (k + 1))), (7, vI (tuK h (vn v) c (k + 1) : Int)), (8, vI ((k + 1 : Nat) : Int))] (by rw [eI, eT]; rfl) ?_
                     exact ih2 (k + 1) (by omega) (by omega))
                  | (rw [if_pos (by omega)] at eT
                     refine g_subl [(0, vR 44), (1, vI w), (2, vI (nPt h c : Int)), (3, vI (mTf h (vn v) c : Int)), (4, vI (nOn h (vn v) c : Int)), (5, vI (c : Int)), (6, vI (inK h c (k + 1))), (7, vI (tuK h (vn v) c (k + 1) : Int)), (8, vI ((k + 1 : Nat) : Int))] (by rw [eI, eT]; rfl) ?_
                     exact ih2 (k + 1) (by omega) (by omega))
              · refine g_iinc rfl (by decide) dX8_ground_191 ?_
                refine g_iinc rfl (by decide) dX8_ground_194 ?_
                refine g_goto (t := 148) dX8_ground_197 (by decide) ?_
                first
                  | (refine g_subl [(0, vR 44), (1, vI w), (2, vI (nPt h c : Int)), (3, vI (mTf h (vn v) c : Int)), (4, vI (nOn h (vn v) c : Int)), (5, vI (c : Int)), (6, vI (inK h c (k + 1))), (7, vI (tuK h (vn v) c (k + 1) : Int)), (8, vI ((k + 1 : Nat) : Int))] (by rw [eI, eT]; rfl) ?_
                     exact ih2 (k + 1) (by omega) (by omega))
                  | (rw [if_neg (by omega)] at eT
                     refine g_subl [(0, vR 44), (1, vI w), (2, vI (nPt h c : Int)), (3, vI (mTf h (vn v) c : Int)), (4, vI (nOn h (vn v) c : Int)), (5, vI (c : Int)), (6, vI (inK h c (k + 1))), (7, vI (tuK h (vn v) c (k + 1) : Int)), (8, vI ((k + 1 : Nat) : Int))] (by rw [eI, eT]; rfl) ?_
                     exact ih2 (k + 1) (by omega) (by omega))
                  | (rw [if_pos (by omega)] at eT
                     refine g_subl [(0, vR 44), (1, vI w), (2, vI (nPt h c : Int)), (3, vI (mTf h (vn v) c : Int)), (4, vI (nOn h (vn v) c : Int)), (5, vI (c : Int)), (6, vI (inK h c (k + 1))), (7, vI (tuK h (vn v) c (k + 1) : Int)), (8, vI ((k + 1 : Nat) : Int))] (by rw [eI, eT]; rfl) ?_
                     exact ih2 (k + 1) (by omega) (by omega))
          · have e1 : ¬ h k = c := by omega
            have eT : tuK h (vn v) c (k + 1) = tuK h (vn v) c k := by rw [sT, if_neg (by simp; intro q; exact absurd q e1)]; rfl
            have eI : inK h c (k + 1) = inK h c k := by
              have z : fb_ct (fun j => h j == c) (k + 1) = fb_ct (fun j => h j == c) k := by rw [sI, if_neg (by simpa using e1)]; rfl
              unfold inK
              rw [z]
            refine g_goto (t := 194) dX8_ground_171 (by decide) ?_
            refine g_iinc rfl (by decide) dX8_ground_194 ?_
            refine g_goto (t := 148) dX8_ground_197 (by decide) ?_
            first
              | (refine g_subl [(0, vR 44), (1, vI w), (2, vI (nPt h c : Int)), (3, vI (mTf h (vn v) c : Int)), (4, vI (nOn h (vn v) c : Int)), (5, vI (c : Int)), (6, vI (inK h c (k + 1))), (7, vI (tuK h (vn v) c (k + 1) : Int)), (8, vI ((k + 1 : Nat) : Int))] (by rw [eI, eT]; rfl) ?_
                 exact ih2 (k + 1) (by omega) (by omega))
              | (rw [if_neg (by omega)] at eT
                 refine g_subl [(0, vR 44), (1, vI w), (2, vI (nPt h c : Int)), (3, vI (mTf h (vn v) c : Int)), (4, vI (nOn h (vn v) c : Int)), (5, vI (c : Int)), (6, vI (inK h c (k + 1))), (7, vI (tuK h (vn v) c (k + 1) : Int)), (8, vI ((k + 1 : Nat) : Int))] (by rw [eI, eT]; rfl) ?_
                 exact ih2 (k + 1) (by omega) (by omega))
              | (rw [if_pos (by omega)] at eT
                 refine g_subl [(0, vR 44), (1, vI w), (2, vI (nPt h c : Int)), (3, vI (mTf h (vn v) c : Int)), (4, vI (nOn h (vn v) c : Int)), (5, vI (c : Int)), (6, vI (inK h c (k + 1))), (7, vI (tuK h (vn v) c (k + 1) : Int)), (8, vI ((k + 1 : Nat) : Int))] (by rw [eI, eT]; rfl) ?_
                 exact ih2 (k + 1) (by omega) (by omega))
      refine g_iload rfl dX8_ground_128 ?_
      refine g_iconst dX8_ground_130 ?_
      refine g_aload_n rfl dX8_ground_131 ?_
      refine gf_X8_94 rfl (by first | rfl | assumption) dX8_ground_132 ?_
      refine g_imul dX8_ground_135 ?_
      refine g_icmp_ge (t := 235) dX8_ground_136 (by decide) (by first | omega | (simp [st2]; done) | (simp [st2]; omega)) (by first | omega | (simp [st2]; done) | (simp [st2]; omega)) (fun b136 => ?_) (fun b136 => ?_)
      · obtain rfl : c = 2 * vn v := by omega
        have h2 := h1 (by omega) hw3 X2 hfr
        unfold gdR at h2
        refine g_iload_n rfl dX8_ground_235 ?_
        refine g_if_ne (t := 243) dX8_ground_236 (by decide) (by first | omega | (simp [st2]; done) | (simp [st2]; omega)) (fun b236 => ?_) (fun b236 => ?_)
        · refine g_iload_n rfl dX8_ground_243 ?_
          refine g_iconst dX8_ground_244 ?_
          refine g_icmp_ne (t := 261) dX8_ground_245 (by decide) (by first | omega | (simp [st2]; done) | (simp [st2]; omega)) (by first | omega | (simp [st2]; done) | (simp [st2]; omega)) (fun b245 => ?_) (fun b245 => ?_)
          · refine g_iload_n rfl dX8_ground_261 ?_
            refine g_iconst dX8_ground_262 ?_
            refine g_icmp_ne (t := 270) dX8_ground_263 (by decide) (by first | omega | (simp [st2]; done) | (simp [st2]; omega)) (by first | omega | (simp [st2]; done) | (simp [st2]; omega)) (fun b263 => ?_) (fun b263 => ?_)
            · refine g_iload rfl dX8_ground_270 ?_
              refine g_ireturn rfl dX8_ground_272 ?_
              first
                | (rw [if_pos (by omega)] at h2; exact h2)
                | (rw [if_neg (by omega), if_pos (by omega)] at h2; exact h2)
                | (rw [if_neg (by omega), if_neg (by omega), if_pos (by omega)] at h2; exact h2)
                | (rw [if_neg (by omega), if_neg (by omega), if_neg (by omega)] at h2; exact h2)
            · refine g_iload_n rfl dX8_ground_266 ?_
              refine g_goto (t := 272) dX8_ground_267 (by decide) ?_
              refine g_ireturn rfl dX8_ground_272 ?_
              first
                | (rw [if_pos (by omega)] at h2; exact h2)
                | (rw [if_neg (by omega), if_pos (by omega)] at h2; exact h2)
                | (rw [if_neg (by omega), if_neg (by omega), if_pos (by omega)] at h2; exact h2)
                | (rw [if_neg (by omega), if_neg (by omega), if_neg (by omega)] at h2; exact h2)
          · refine g_iconst dX8_ground_248 ?_
            refine g_aload_n rfl dX8_ground_249 ?_
            refine gf_X8_94 rfl (by first | rfl | assumption) dX8_ground_250 ?_
            rw [z5]
            refine g_iadd dX8_ground_253 ?_
            refine g_iload_n rfl dX8_ground_254 ?_
            refine g_isub dX8_ground_255 ?_
            refine g_iconst dX8_ground_256 ?_
            refine g_idivT (by first | omega | (simp [st2]; done) | (simp [st2]; omega)) (by first | omega | (simp [st2]; done) | (simp [st2]; omega)) dX8_ground_257 ?_
            refine g_goto (t := 272) dX8_ground_258 (by decide) ?_
            refine g_ireturn rfl dX8_ground_272 ?_
            first
              | (rw [if_pos (by omega)] at h2; exact h2)
              | (rw [if_neg (by omega), if_pos (by omega)] at h2; exact h2)
              | (rw [if_neg (by omega), if_neg (by omega), if_pos (by omega)] at h2; exact h2)
              | (rw [if_neg (by omega), if_neg (by omega), if_neg (by omega)] at h2; exact h2)
        · refine g_iload_n rfl dX8_ground_239 ?_
          refine g_goto (t := 272) dX8_ground_240 (by decide) ?_
          refine g_ireturn rfl dX8_ground_272 ?_
          first
            | (rw [if_pos (by omega)] at h2; exact h2)
            | (rw [if_neg (by omega), if_pos (by omega)] at h2; exact h2)
            | (rw [if_neg (by omega), if_neg (by omega), if_pos (by omega)] at h2; exact h2)
            | (rw [if_neg (by omega), if_neg (by omega), if_neg (by omega)] at h2; exact h2)
      · refine g_iconst dX8_ground_139 ?_
        refine g_istore (by decide) dX8_ground_140 ?_
        refine g_iconst dX8_ground_142 ?_
        refine g_istore (by decide) dX8_ground_143 ?_
        refine g_iconst dX8_ground_145 ?_
        refine g_istore (by decide) dX8_ground_146 ?_
        refine g_subl [(0, vR 44), (1, vI w), (2, vI (nPt h c : Int)), (3, vI (mTf h (vn v) c : Int)), (4, vI (nOn h (vn v) c : Int)), (5, vI (c : Int)), (6, vI (inK h c 0)), (7, vI (tuK h (vn v) c 0 : Int)), (8, vI ((0 : Nat) : Int))] rfl ?_
        exact inner (by omega) 0 (by omega)
    have loopB : (0 ≤ w ∧ w ≤ 3) → ∀ k, k ≤ vn v → ∀ X2, (∀ d j, d ≠ 69 → X2 d j = X d j) → Rw X2 69 (2 * vn v) (lbM v k) → G l g mX8_ground κ K 45 [(0, vR 44), (1, vI w), (2, vI (k : Int))] [] X2 := by
      intro hw3
      refine upTo (vn v) ?_
      intro k hk ih X2 hfr hrow
      have z5 : X2 44 5 = (vn v : Int) := (hfr 44 5 (by decide)).trans x1
      refine g_iload_n rfl dX8_ground_45 ?_
      refine g_aload_n rfl dX8_ground_46 ?_
      refine gf_X8_94 rfl (by first | rfl | assumption) dX8_ground_47 ?_
      refine g_icmp_ge (t := 118) dX8_ground_50 (by decide) (by first | omega | (simp [st2]; done) | (simp [st2]; omega)) (by first | omega | (simp [st2]; done) | (simp [st2]; omega)) (fun b50 => ?_) (fun b50 => ?_)
      · refine g_iconst dX8_ground_118 ?_
        refine g_istore_n (by decide) dX8_ground_119 ?_
        refine g_iconst dX8_ground_120 ?_
        refine g_istore_n (by decide) dX8_ground_121 ?_
        refine g_iconst dX8_ground_122 ?_
        refine g_istore (by decide) dX8_ground_123 ?_
        refine g_iconst dX8_ground_125 ?_
        refine g_istore (by decide) dX8_ground_126 ?_
        obtain rfl : k = vn v := by omega
        rw [← eh] at hrow
        refine g_subl [(0, vR 44), (1, vI w), (2, vI (nPt h 0 : Int)), (3, vI (mTf h (vn v) 0 : Int)), (4, vI (nOn h (vn v) 0 : Int)), (5, vI ((0 : Nat) : Int))] rfl ?_
        exact loopC hw3 0 (by omega) X2 hfr hrow
      · have p1 := posI_spec hpa (k := k) (by omega)
        have p2 := posI_spec hpu (k := k) (by omega)
        refine g_aload_n rfl dX8_ground_53 ?_
        refine g_aload_n rfl dX8_ground_54 ?_
        refine gf_X8_26 (c2 := 50) rfl rfl (by first | rfl | assumption) dX8_ground_55 ?_
        refine g_iload_n rfl dX8_ground_58 ?_
        refine g_cv2 (M2 := mX8_placeOf) (ci := 8) dX8_ground_59 ml_RX8_212 kX8_placeOf (by decide) (by first | rfl | assumption) (by decide) rfl (by unfold Rm; decide) (Nat.le_of_ble_eq_true rfl) (ct_X8_placeOf (n := vn v) (f := va v) hn8 hpa rfl rfl (fun j hj => (hfr 50 j (by decide)).trans (hX.2.2.1 j hj).2.2.1) (by omega) ?_)
        refine g_istore_n (by decide) dX8_ground_62 ?_
        refine g_aload_n rfl dX8_ground_63 ?_
        refine g_aload_n rfl dX8_ground_64 ?_
        refine gf_X8_29 (c2 := 51) rfl rfl (by first | rfl | assumption) dX8_ground_65 ?_
        refine g_iload_n rfl dX8_ground_68 ?_
        refine g_cv2 (M2 := mX8_placeOf) (ci := 8) dX8_ground_69 ml_RX8_212 kX8_placeOf (by decide) (by first | rfl | assumption) (by decide) rfl (by unfold Rm; decide) (Nat.le_of_ble_eq_true rfl) (ct_X8_placeOf (n := vn v) (f := vu v) hn8 hpu rfl rfl (fun j hj => (hfr 51 j (by decide)).trans (hX.2.2.1 j hj).2.2.2) (by omega) ?_)
        refine g_istore (by decide) dX8_ground_72 ?_
        refine g_aload_n rfl dX8_ground_74 ?_
        refine g_aload_n rfl dX8_ground_75 ?_
        refine g_iconst dX8_ground_76 ?_
        refine g_iload_n rfl dX8_ground_77 ?_
        refine g_cv2 (M2 := mX8_cornerOf) (ci := 8) dX8_ground_78 ml_RX8_216 kX8_cornerOf (by decide) (by first | rfl | assumption) (by decide) rfl (by unfold Rm; decide) (Nat.le_of_ble_eq_true rfl) (ct_X8_cornerOf (n := vn v) (Or.inl rfl) z5 hn8 (by omega) ?_)
        rw [if_pos rfl]
        refine g_aload_n rfl dX8_ground_81 ?_
        refine g_iconst dX8_ground_82 ?_
        refine g_iload rfl dX8_ground_83 ?_
        refine g_cv2 (M2 := mX8_cornerOf) (ci := 8) dX8_ground_85 ml_RX8_216 kX8_cornerOf (by decide) (by first | rfl | assumption) (by decide) rfl (by unfold Rm; decide) (Nat.le_of_ble_eq_true rfl) (ct_X8_cornerOf (n := vn v) (Or.inr rfl) z5 hn8 (by omega) ?_)
        rw [if_neg (by decide)]
        refine g_cv2v (M2 := mX8_glues) (ci := 8) dX8_ground_88 ml_RX8_220 kX8_glues rfl (by first | rfl | assumption) (by decide) rfl (by unfold Rm; decide) (Nat.le_of_ble_eq_true rfl) (ct_X8_glues (n := vn v) z5 hn8 hrow (lbM_lt hv k (by omega)) (by omega) (cb_lt (by omega) hn2) (fun X3 f3 r3 => ?_))
        have y5 : X3 44 5 = (vn v : Int) := (f3 44 5 (by decide)).trans z5
        refine g_aload_n rfl dX8_ground_91 ?_
        refine g_aload_n rfl dX8_ground_92 ?_
        refine g_iconst dX8_ground_93 ?_
        refine g_iload_n rfl dX8_ground_94 ?_
        refine g_iconst dX8_ground_95 ?_
        refine g_iadd dX8_ground_96 ?_
        rw [show (posI (va v) k (vn v) : Int) + 1 = ((posI (va v) k (vn v) + 1 : Nat) : Int) from rfl]
        refine g_cv2 (M2 := mX8_cornerOf) (ci := 8) dX8_ground_97 ml_RX8_216 kX8_cornerOf (by decide) (by first | rfl | assumption) (by decide) rfl (by unfold Rm; decide) (Nat.le_of_ble_eq_true rfl) (ct_X8_cornerOf (n := vn v) (Or.inl rfl) y5 hn8 (by omega) ?_)
        rw [if_pos rfl]
        refine g_aload_n rfl dX8_ground_100 ?_
        refine g_iconst dX8_ground_101 ?_
        refine g_iload rfl dX8_ground_102 ?_
        refine g_iconst dX8_ground_104 ?_
        refine g_iadd dX8_ground_105 ?_
        rw [show (posI (vu v) k (vn v) : Int) + 1 = ((posI (vu v) k (vn v) + 1 : Nat) : Int) from rfl]
        refine g_cv2 (M2 := mX8_cornerOf) (ci := 8) dX8_ground_106 ml_RX8_216 kX8_cornerOf (by decide) (by first | rfl | assumption) (by decide) rfl (by unfold Rm; decide) (Nat.le_of_ble_eq_true rfl) (ct_X8_cornerOf (n := vn v) (Or.inr rfl) y5 hn8 (by omega) ?_)
        rw [if_neg (by decide)]
        refine g_cv2v (M2 := mX8_glues) (ci := 8) dX8_ground_109 ml_RX8_220 kX8_glues rfl (by first | rfl | assumption) (by decide) rfl (by unfold Rm; decide) (Nat.le_of_ble_eq_true rfl) (ct_X8_glues (n := vn v) y5 hn8 r3 (jn_lt (lbM_lt hv k (by omega)) (cb_lt (by omega) hn2)) (by omega) (cb_lt (by omega) hn2) (fun X4 f4 r4 => ?_))
        refine g_iinc rfl (by decide) dX8_ground_112 ?_
        refine g_goto (t := 45) dX8_ground_115 (by decide) ?_
        refine g_subl [(0, vR 44), (1, vI w), (2, vI ((k + 1 : Nat) : Int))] rfl ?_
        exact ih (k + 1) (by omega) (by omega) X4 (fun d j hd => by rw [f4 d j hd, f3 d j hd]; exact hfr d j hd) r4
    have loopA : (0 ≤ w ∧ w ≤ 3) → ∀ i, i ≤ 2 * vn v → ∀ X2, (∀ d j, d ≠ 69 → X2 d j = X d j) → (∀ c, c < i → X2 69 c = (c : Int)) → G l g mX8_ground κ K 20 [(0, vR 44), (1, vI w), (2, vI (i : Int))] [] X2 := by
      intro hw3
      refine upTo (2 * vn v) ?_
      intro i hi ih X2 hfr hrow
      have z5 : X2 44 5 = (vn v : Int) := (hfr 44 5 (by decide)).trans x1
      refine g_iload_n rfl dX8_ground_20 ?_
      refine g_iconst dX8_ground_21 ?_
      refine g_aload_n rfl dX8_ground_22 ?_
      refine gf_X8_94 rfl (by first | rfl | assumption) dX8_ground_23 ?_
      refine g_imul dX8_ground_26 ?_
      refine g_icmp_ge (t := 43) dX8_ground_27 (by decide) (by first | omega | (simp [st2]; done) | (simp [st2]; omega)) (by first | omega | (simp [st2]; done) | (simp [st2]; omega)) (fun b27 => ?_) (fun b27 => ?_)
      · refine g_iconst dX8_ground_43 ?_
        refine g_istore_n (by decide) dX8_ground_44 ?_
        refine g_subl [(0, vR 44), (1, vI w), (2, vI ((0 : Nat) : Int))] rfl ?_
        exact loopB hw3 0 (by omega) X2 hfr (fun c hc => hrow c (by omega))
      · refine g_aload_n rfl dX8_ground_30 ?_
        refine gf_X8_84 (c2 := 69) rfl rfl (by first | rfl | assumption) dX8_ground_31 ?_
        refine g_iload_n rfl dX8_ground_34 ?_
        refine g_iload_n rfl dX8_ground_35 ?_
        refine g_iast (n := 16) (_) (by first | rfl | assumption) (by first | rfl | assumption) rfl (by first | omega | (simp [st2]; done) | (simp [st2]; omega)) (by first | omega | (simp [st2]; done) | (simp [st2]; omega)) dX8_ground_36 ?_
        refine g_iinc rfl (by decide) dX8_ground_37 ?_
        refine g_goto (t := 20) dX8_ground_40 (by decide) ?_
        refine g_subl [(0, vR 44), (1, vI w), (2, vI ((i + 1 : Nat) : Int))] rfl ?_
        refine ih (i + 1) (by omega) (by omega) _ (fun d j z2 => by simp only [st2, if_neg z2]; exact hfr d j z2) (fun c hc => ?_)
        by_cases z : c = i
        · subst z
          simp [st2]
        · simp only [st2, if_true, if_neg z]
          exact hrow c (by omega)
    refine g_aload_n rfl dX8_ground_0 ?_
    refine gf_X8_94 rfl (by first | rfl | assumption) dX8_ground_1 ?_
    refine g_if_eq (t := 16) dX8_ground_4 (by decide) (by first | omega | (simp [st2]; done) | (simp [st2]; omega)) (fun b4 => ?_) (fun b4 => ?_)
    · exfalso; omega
    · refine g_iload_n rfl dX8_ground_7 ?_
      refine g_if_lt (t := 16) dX8_ground_8 (by decide) (by first | omega | (simp [st2]; done) | (simp [st2]; omega)) (fun b8 => ?_) (fun b8 => ?_)
      · refine g_iconst dX8_ground_16 ?_
        refine g_ireturn rfl dX8_ground_17 ?_
        exact h0 (by omega)
      · refine g_iload_n rfl dX8_ground_11 ?_
        refine g_iconst dX8_ground_12 ?_
        refine g_icmp_le (t := 18) dX8_ground_13 (by decide) (by first | omega | (simp [st2]; done) | (simp [st2]; omega)) (by first | omega | (simp [st2]; done) | (simp [st2]; omega)) (fun b13 => ?_) (fun b13 => ?_)
        · refine g_iconst dX8_ground_18 ?_
          refine g_istore_n (by decide) dX8_ground_19 ?_
          refine g_subl [(0, vR 44), (1, vI w), (2, vI ((0 : Nat) : Int))] rfl ?_
          exact loopA (by omega) 0 (by omega) X (fun _ _ _ => rfl) (fun c hc => by omega)
        · refine g_iconst dX8_ground_16 ?_
          refine g_ireturn rfl dX8_ground_17 ?_
          exact h0 (by omega)
