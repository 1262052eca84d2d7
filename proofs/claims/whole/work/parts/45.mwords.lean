def cuC (X : Mm) (k : Nat) : Int × Int := (X 64 k, X 65 k)
def CuI (v : Mv) (m J i c : Nat) (X : Mm) : Prop := (∀ k, k < c → cuC X k ≠ (0, 0) ∧ ∃ j q, 0 < j ∧ j < vn v ∧ q < m ∧ cuC X k = bkI v q (eP v j)) ∧ (∀ j q, 0 < j → (j ≤ J ∧ q < m ∨ j = J + 1 ∧ q < i) → bkI v q (eP v j) = (0, 0) ∨ ∃ k, k < c ∧ cuC X k = bkI v q (eP v j)) ∧ (∀ a k, a < k → k < c → cuC X a ≠ cuC X k) ∧ c ≤ 10 * J + i
theorem CuI.fr {v : Mv} {m J i c : Nat} {X X2 : Mm} (h : CuI v m J i c X) (e : ∀ j, X2 64 j = X 64 j ∧ X2 65 j = X 65 j) : CuI v m J i c X2 := by
  have ec : cuC X2 = cuC X := by
    funext k
    unfold cuC
    rw [(e k).1, (e k).2]
  unfold CuI
  rw [ec]
  exact h
theorem CuI.skip {v : Mv} {m J i c : Nat} {X : Mm} (h : CuI v m J i c X) (hp : bkI v i (eP v (J + 1)) = (0, 0) ∨ ∃ k, k < c ∧ cuC X k = bkI v i (eP v (J + 1))) : CuI v m J (i + 1) c X := by
  obtain ⟨h1, h2, h3, h4⟩ := h
  refine ⟨h1, fun j q hj hq => ?_, h3, by omega⟩
  by_cases z : j = J + 1 ∧ q = i
  · rw [z.1, z.2]
    exact hp
  · exact h2 j q hj (by omega)
theorem CuI.add {v : Mv} {m J i c : Nat} {X : Mm} (h : CuI v m J i c X) (hJ : J + 1 < vn v) (hi : i < m) (hp : ¬ (bkI v i (eP v (J + 1)) = (0, 0) ∨ ∃ k, k < c ∧ cuC X k = bkI v i (eP v (J + 1)))) : CuI v m J (i + 1) (c + 1) (st2 (st2 X 64 c (bkI v i (eP v (J + 1))).1) 65 c (bkI v i (eP v (J + 1))).2) := by
  obtain ⟨h1, h2, h3, h4⟩ := h
  have e1 : cuC (st2 (st2 X 64 c (bkI v i (eP v (J + 1))).1) 65 c (bkI v i (eP v (J + 1))).2) c = bkI v i (eP v (J + 1)) := by
    simp [cuC, st2]
  have e2 : ∀ k, k ≠ c → cuC (st2 (st2 X 64 c (bkI v i (eP v (J + 1))).1) 65 c (bkI v i (eP v (J + 1))).2) k = cuC X k := fun k hk => by
    simp [cuC, st2, hk]
  refine ⟨fun k hk => ?_, fun j q hj hq => ?_, fun a k hak hk => ?_, by omega⟩
  · by_cases z : k = c
    · rw [z, e1]
      exact ⟨fun w => hp (Or.inl w), J + 1, i, by omega, hJ, hi, rfl⟩
    · rw [e2 k z]
      exact h1 k (by omega)
  · by_cases z : j = J + 1 ∧ q = i
    · rw [z.1, z.2]
      exact Or.inr ⟨c, by omega, e1⟩
    · rcases h2 j q hj (by omega) with w | ⟨k, hk, w⟩
      · exact Or.inl w
      · exact Or.inr ⟨k, by omega, by rw [e2 k (by omega)]; exact w⟩
  · by_cases z : k = c
    · rw [z, e1, e2 a (by omega)]
      exact fun w => hp (Or.inr ⟨a, by omega, w⟩)
    · rw [e2 a (by omega), e2 k z]
      exact h3 a k hak (by omega)
theorem CuI.next {v : Mv} {m J c : Nat} {X : Mm} (h : CuI v m J m c X) (hm : m ≤ 10) : CuI v m (J + 1) 0 c X := by
  obtain ⟨h1, h2, h3, h4⟩ := h
  refine ⟨h1, fun j q hj hq => h2 j q hj (by omega), h3, by omega⟩
theorem CuI.zero (v : Mv) (m : Nat) (X : Mm) : CuI v m 0 0 0 X := ⟨fun k hk => by omega, fun j q hj hq => by omega, fun a k hak hk => by omega, by omega⟩
theorem CuI.fin {v : Mv} {m c : Nat} {X : Mm} (h : CuI v m (vn v - 1) 0 c X) : WCu v m c := ⟨cuC X, h.1, fun j q hj hn hq => h.2.1 j q hj (by omega), h.2.2.1⟩
def FrW (X X2 : Mm) : Prop := ∀ d j, d ≠ 64 → d ≠ 65 → ¬ (d = 44 ∧ 16 ≤ j ∧ j ≤ 19) → X2 d j = X d j
set_option maxRecDepth 100000 in
set_option maxHeartbeats 4000000 in
theorem ct_X8_words {l : Launch} {g : Geo} {X : Mm} {K : AV → Mm → Prop} {v : Mv} {m : Int} (hm : -2147483648 ≤ m ∧ m < 2147483648) (hX : MvM X v) (hv0 : vn v ≠ 0 → Vd v) (h0 : vn v = 0 → K (vI (-1)) X) (h1 : vn v ≠ 0 → (m < 1 ∨ 10 < m) → K (vI (-2)) X) (h2 : vn v ≠ 0 → (1 ≤ m ∧ m ≤ 10) → ∀ X2, FrW X X2 → K (vI (fb_sm (bbW v m.toNat) (vn v) : Int)) X2) : Ct l g mX8_words [vR 44, vI m] X K := by
  refine enter (by decide) (Nat.le_of_ble_eq_true rfl) (fun κ => ?_)
  have x1 : X 44 5 = (vn v : Int) := hX.1
  have hn8 : vn v ≤ 8 := by
    rcases Nat.eq_zero_or_pos (vn v) with z | z
    · omega
    · exact (hv0 (by omega)).2.1
  rcases (show vn v = 0 ∨ (vn v ≠ 0 ∧ (m < 1 ∨ 10 < m)) ∨ (vn v ≠ 0 ∧ 1 ≤ m ∧ m ≤ 10) by omega) with hc | ⟨hn0, hc⟩ | ⟨hn0, hm1⟩
  · have hzz := hc
    refine g_aload_n rfl dX8_words_0 ?_
    refine gf_X8_94 rfl (by first | rfl | assumption) dX8_words_1 ?_
    refine g_if_ne (t := 9) dX8_words_4 (by decide) (by first | omega | (simp [st2]; done) | (simp [st2]; omega)) (fun b4 => ?_) (fun b4 => ?_)
    · exfalso; omega
    · refine g_iconst dX8_words_7 ?_
      refine g_ireturn rfl dX8_words_8 ?_
      exact h0 hc
  · have hzz := hc
    refine g_aload_n rfl dX8_words_0 ?_
    refine gf_X8_94 rfl (by first | rfl | assumption) dX8_words_1 ?_
    refine g_if_ne (t := 9) dX8_words_4 (by decide) (by first | omega | (simp [st2]; done) | (simp [st2]; omega)) (fun b4 => ?_) (fun b4 => ?_)
    · refine g_iload_n rfl dX8_words_9 ?_
      refine g_iconst dX8_words_10 ?_
      refine g_icmp_lt (t := 20) dX8_words_11 (by decide) (by first | omega | (simp [st2]; done) | (simp [st2]; omega)) (by first | omega | (simp [st2]; done) | (simp [st2]; omega)) (fun b11 => ?_) (fun b11 => ?_)
      · refine g_bipush (by decide) dX8_words_20 ?_
        refine g_ireturn rfl dX8_words_22 ?_
        exact h1 hn0 hc
      · refine g_iload_n rfl dX8_words_14 ?_
        refine g_bipush (by decide) dX8_words_15 ?_
        refine g_icmp_le (t := 23) dX8_words_17 (by decide) (by first | omega | (simp [st2]; done) | (simp [st2]; omega)) (by first | omega | (simp [st2]; done) | (simp [st2]; omega)) (fun b17 => ?_) (fun b17 => ?_)
        · exfalso; omega
        · refine g_bipush (by decide) dX8_words_20 ?_
          refine g_ireturn rfl dX8_words_22 ?_
          exact h1 hn0 hc
    · exfalso; omega
  have hv := hv0 hn0
  have hn2 := hv.1
  obtain ⟨M, em⟩ : ∃ M : Nat, m = (M : Int) := ⟨m.toNat, by omega⟩
  subst em
  rw [Int.toNat_natCast] at h2
  have loop : ∀ J, J ≤ vn v - 1 → ∀ c X2, FrW X X2 → CuI v M J 0 c X2 → G l g mX8_words κ K 33 [(0, vR 44), (1, vI (M : Int)), (2, vI (c : Int)), (3, vJ (eP v J).1), (5, vJ (eP v J).2), (7, vI (J : Int))] [] X2 := by
    refine upTo (vn v - 1) ?_
    intro J hJ ih c X2 hfr hC
    have z5 : X2 44 5 = (vn v : Int) := (hfr 44 5 (by omega) (by omega) (by omega)).trans x1
    have inner : J + 1 < vn v → ∀ i, i ≤ M → ∀ c X2, FrW X X2 → CuI v M J i c X2 → G l g mX8_words κ K 86 [(0, vR 44), (1, vI (M : Int)), (2, vI (c : Int)), (3, vJ (eP v (J + 1)).1), (5, vJ (eP v (J + 1)).2), (7, vI (J : Int)), (8, vJ (bkI v (i - 1) (eP v (J + 1))).1), (10, vJ (bkI v (i - 1) (eP v (J + 1))).2), (12, vI (i : Int))] [] X2 := by
      intro hJ1
      refine upTo M ?_
      intro i hi ih2 c X2 hfr hC
      obtain ⟨p, ep⟩ : ∃ p, p = bkI v i (eP v (J + 1)) := ⟨_, rfl⟩
      have hok := bkI_ok hv hJ1 (s := i) (by omega)
      have hok0 := bkI_ok hv hJ1 (s := i - 1) (by omega)
      rw [← ep] at hok
      have hpb := hok.1
      unfold pB at hpb
      have hc70 : i ≤ 10 ∧ c ≤ 70 + i := ⟨by omega, by have := hC.2.2.2; omega⟩
      -- the search among the cuts, from what is known of the point itself
      have scan : i < M → ∀ X3, FrW X X3 → CuI v M J i c X3 → ∀ k, k ≤ c → ∀ w : Int, (w = 1 ∧ (p = (0, 0) ∨ ∃ q, q < k ∧ cuC X3 q = p)) ∨ (w = 0 ∧ ¬ (p = (0, 0) ∨ ∃ q, q < k ∧ cuC X3 q = p)) → G l g mX8_words κ K 142 [(0, vR 44), (1, vI (M : Int)), (2, vI (c : Int)), (3, vJ (eP v (J + 1)).1), (5, vJ (eP v (J + 1)).2), (7, vI (J : Int)), (8, vJ p.1), (10, vJ p.2), (12, vI (i : Int)), (13, vI w), (14, vI (k : Int))] [] X3 := by
        intro hiM X3 hfr3 hC3
        refine upTo c ?_
        intro k hk ih3 w hw
        have c80 : c ≤ 10 * J + i := hC3.2.2.2
        have hw01 : w = 0 ∨ w = 1 := by
          rcases hw with z | z
          · exact Or.inr z.1
          · exact Or.inl z.1
        refine g_iload rfl dX8_words_142 ?_
        refine g_iload_n rfl dX8_words_144 ?_
        refine g_icmp_ge (t := 192) dX8_words_145 (by decide) (by first | omega | (simp [st2]; done) | (simp [st2]; omega)) (by first | omega | (simp [st2]; done) | (simp [st2]; omega)) (fun b145 => ?_) (fun b145 => ?_)
        · obtain rfl : k = c := by omega
          refine g_iload rfl dX8_words_192 ?_
          refine g_if_eq (t := 200) dX8_words_194 (by decide) (by first | omega | (simp [st2]; done) | (simp [st2]; omega)) (fun b194 => ?_) (fun b194 => ?_)
          · have hno : ¬ (bkI v i (eP v (J + 1)) = (0, 0) ∨ ∃ q, q < k ∧ cuC X3 q = bkI v i (eP v (J + 1))) := by
              rw [← ep]
              rcases hw with ⟨z, _⟩ | ⟨_, z⟩
              · omega
              · exact z
            refine g_aload_n rfl dX8_words_200 ?_
            refine gf_X8_69 (c2 := 64) rfl rfl (by first | rfl | assumption) dX8_words_201 ?_
            refine g_iload_n rfl dX8_words_204 ?_
            refine g_lload rfl dX8_words_205 ?_
            refine g_last (n := 80) (_) (by first | rfl | assumption) (by first | rfl | assumption) rfl (by first | omega | (simp [st2]; done) | (simp [st2]; omega)) (by first | omega | (simp [st2]; done) | (simp [st2]; omega)) dX8_words_207 ?_
            refine g_aload_n rfl dX8_words_208 ?_
            refine gf_X8_72 (c2 := 65) rfl rfl (by first | rfl | assumption) dX8_words_209 ?_
            refine g_iload_n rfl dX8_words_212 ?_
            refine g_lload rfl dX8_words_213 ?_
            refine g_last (n := 80) (_) (by first | rfl | assumption) (by first | rfl | assumption) rfl (by first | omega | (simp [st2]; done) | (simp [st2]; omega)) (by first | omega | (simp [st2]; done) | (simp [st2]; omega)) dX8_words_215 ?_
            refine g_iinc rfl (by decide) dX8_words_216 ?_
            refine g_iinc rfl (by decide) dX8_words_219 ?_
            refine g_goto (t := 86) dX8_words_222 (by decide) ?_
            first
              | (refine g_subl [(0, vR 44), (1, vI (M : Int)), (2, vI (k : Int)), (3, vJ (eP v (J + 1)).1), (5, vJ (eP v (J + 1)).2), (7, vI (J : Int)), (8, vJ p.1), (10, vJ p.2), (12, vI ((i + 1 : Nat) : Int))] rfl ?_
                 rw [ep]
                 exact ih2 (i + 1) (by omega) (by omega) k X3 hfr3 (hC3.skip hyes))
              | (refine g_subl [(0, vR 44), (1, vI (M : Int)), (2, vI ((k + 1 : Nat) : Int)), (3, vJ (eP v (J + 1)).1), (5, vJ (eP v (J + 1)).2), (7, vI (J : Int)), (8, vJ p.1), (10, vJ p.2), (12, vI ((i + 1 : Nat) : Int))] rfl ?_
                 rw [ep]
                 refine ih2 (i + 1) (by omega) (by omega) (k + 1) _ (fun d j q1 q2 q3 => ?_) (hC3.add hJ1 hiM hno)
                 simp only [st2, if_neg q1, if_neg q2]
                 exact hfr3 d j q1 q2 q3)
          · have hyes : bkI v i (eP v (J + 1)) = (0, 0) ∨ ∃ q, q < k ∧ cuC X3 q = bkI v i (eP v (J + 1)) := by
              rw [← ep]
              rcases hw with ⟨_, z⟩ | ⟨z, _⟩
              · exact z
              · exact absurd z b194
            refine g_goto (t := 219) dX8_words_197 (by decide) ?_
            refine g_iinc rfl (by decide) dX8_words_219 ?_
            refine g_goto (t := 86) dX8_words_222 (by decide) ?_
            first
              | (refine g_subl [(0, vR 44), (1, vI (M : Int)), (2, vI (k : Int)), (3, vJ (eP v (J + 1)).1), (5, vJ (eP v (J + 1)).2), (7, vI (J : Int)), (8, vJ p.1), (10, vJ p.2), (12, vI ((i + 1 : Nat) : Int))] rfl ?_
                 rw [ep]
                 exact ih2 (i + 1) (by omega) (by omega) k X3 hfr3 (hC3.skip hyes))
              | (refine g_subl [(0, vR 44), (1, vI (M : Int)), (2, vI ((k + 1 : Nat) : Int)), (3, vJ (eP v (J + 1)).1), (5, vJ (eP v (J + 1)).2), (7, vI (J : Int)), (8, vJ p.1), (10, vJ p.2), (12, vI ((i + 1 : Nat) : Int))] rfl ?_
                 rw [ep]
                 refine ih2 (i + 1) (by omega) (by omega) (k + 1) _ (fun d j q1 q2 q3 => ?_) (hC3.add hJ1 hiM hno)
                 simp only [st2, if_neg q1, if_neg q2]
                 exact hfr3 d j q1 q2 q3)
        · have hkc : k < c := by omega
          have hbk : ∃ q1 q2, 0 < q1 ∧ q1 < vn v ∧ q2 < M ∧ cuC X3 k = bkI v q2 (eP v q1) := (hC3.1 k hkc).2
          have hrng : (-536870912 ≤ X3 64 k ∧ X3 64 k ≤ 536870912) ∧ (-536870912 ≤ X3 65 k ∧ X3 65 k ≤ 536870912) := by
            obtain ⟨q1, q2, r1, r2, r3, r4⟩ := hbk
            have r5 := (bkI_ok hv r2 (s := q2) (by omega)).1
            rw [← r4] at r5
            exact r5
          refine g_iload rfl dX8_words_148 ?_
          refine g_if_ne (t := 179) dX8_words_150 (by decide) (by first | omega | (simp [st2]; done) | (simp [st2]; omega)) (fun b150 => ?_) (fun b150 => ?_)
          · have hyes : p = (0, 0) ∨ ∃ q, q < k + 1 ∧ cuC X3 q = p := by
              rcases hw with ⟨_, z | ⟨q, hq, z⟩⟩ | ⟨z, _⟩
              · exact Or.inl z
              · exact Or.inr ⟨q, by omega, z⟩
              · exact absurd z b150
            refine g_iconst dX8_words_179 ?_
            refine g_goto (t := 184) dX8_words_180 (by decide) ?_
            refine g_istore (by decide) dX8_words_184 ?_
            refine g_iinc rfl (by decide) dX8_words_186 ?_
            refine g_goto (t := 142) dX8_words_189 (by decide) ?_
            first
              | (refine g_subl [(0, vR 44), (1, vI (M : Int)), (2, vI (c : Int)), (3, vJ (eP v (J + 1)).1), (5, vJ (eP v (J + 1)).2), (7, vI (J : Int)), (8, vJ p.1), (10, vJ p.2), (12, vI (i : Int)), (13, vI 1), (14, vI ((k + 1 : Nat) : Int))] rfl ?_
                 exact ih3 (k + 1) (by omega) (by omega) 1 (Or.inl ⟨rfl, hyes⟩))
              | (refine g_subl [(0, vR 44), (1, vI (M : Int)), (2, vI (c : Int)), (3, vJ (eP v (J + 1)).1), (5, vJ (eP v (J + 1)).2), (7, vI (J : Int)), (8, vJ p.1), (10, vJ p.2), (12, vI (i : Int)), (13, vI 0), (14, vI ((k + 1 : Nat) : Int))] rfl ?_
                 exact ih3 (k + 1) (by omega) (by omega) 0 (Or.inr ⟨rfl, hno2⟩))
          · have hno : ¬ (p = (0, 0) ∨ ∃ q, q < k ∧ cuC X3 q = p) := by
              rcases hw with ⟨z, _⟩ | ⟨_, z⟩
              · omega
              · exact z
            refine g_aload_n rfl dX8_words_153 ?_
            refine gf_X8_69 (c2 := 64) rfl rfl (by first | rfl | assumption) dX8_words_154 ?_
            refine g_iload rfl dX8_words_157 ?_
            refine g_lald (n := 80) (_) (by first | rfl | assumption) (by first | rfl | assumption) rfl (by first | omega | (simp [st2]; done) | (simp [st2]; omega)) (by first | omega | (simp [st2]; done) | (simp [st2]; omega)) dX8_words_159 ?_
            refine g_lload rfl dX8_words_160 ?_
            refine g_lne (t := 183) dX8_words_162 dX8_words_163 (by decide) (by first | omega | (simp [st2]; done) | (simp [st2]; omega)) (by first | omega | (simp [st2]; done) | (simp [st2]; omega)) (fun b162 => ?_) (fun b162 => ?_)
            · have hno2 : ¬ (p = (0, 0) ∨ ∃ q, q < k + 1 ∧ cuC X3 q = p) := by
                rintro (z | ⟨q, hq, z⟩)
                · exact hno (Or.inl z)
                · by_cases e : q = k
                  · rw [e] at z
                    exact b162 (congrArg Prod.fst z)
                  · exact hno (Or.inr ⟨q, by omega, z⟩)
              refine g_iconst dX8_words_183 ?_
              refine g_istore (by decide) dX8_words_184 ?_
              refine g_iinc rfl (by decide) dX8_words_186 ?_
              refine g_goto (t := 142) dX8_words_189 (by decide) ?_
              first
                | (refine g_subl [(0, vR 44), (1, vI (M : Int)), (2, vI (c : Int)), (3, vJ (eP v (J + 1)).1), (5, vJ (eP v (J + 1)).2), (7, vI (J : Int)), (8, vJ p.1), (10, vJ p.2), (12, vI (i : Int)), (13, vI 1), (14, vI ((k + 1 : Nat) : Int))] rfl ?_
                   exact ih3 (k + 1) (by omega) (by omega) 1 (Or.inl ⟨rfl, hyes⟩))
                | (refine g_subl [(0, vR 44), (1, vI (M : Int)), (2, vI (c : Int)), (3, vJ (eP v (J + 1)).1), (5, vJ (eP v (J + 1)).2), (7, vI (J : Int)), (8, vJ p.1), (10, vJ p.2), (12, vI (i : Int)), (13, vI 0), (14, vI ((k + 1 : Nat) : Int))] rfl ?_
                   exact ih3 (k + 1) (by omega) (by omega) 0 (Or.inr ⟨rfl, hno2⟩))
            · refine g_aload_n rfl dX8_words_166 ?_
              refine gf_X8_72 (c2 := 65) rfl rfl (by first | rfl | assumption) dX8_words_167 ?_
              refine g_iload rfl dX8_words_170 ?_
              refine g_lald (n := 80) (_) (by first | rfl | assumption) (by first | rfl | assumption) rfl (by first | omega | (simp [st2]; done) | (simp [st2]; omega)) (by first | omega | (simp [st2]; done) | (simp [st2]; omega)) dX8_words_172 ?_
              refine g_lload rfl dX8_words_173 ?_
              refine g_lne (t := 183) dX8_words_175 dX8_words_176 (by decide) (by first | omega | (simp [st2]; done) | (simp [st2]; omega)) (by first | omega | (simp [st2]; done) | (simp [st2]; omega)) (fun b175 => ?_) (fun b175 => ?_)
              · have hno2 : ¬ (p = (0, 0) ∨ ∃ q, q < k + 1 ∧ cuC X3 q = p) := by
                  rintro (z | ⟨q, hq, z⟩)
                  · exact hno (Or.inl z)
                  · by_cases e : q = k
                    · rw [e] at z
                      exact b175 (congrArg Prod.snd z)
                    · exact hno (Or.inr ⟨q, by omega, z⟩)
                refine g_iconst dX8_words_183 ?_
                refine g_istore (by decide) dX8_words_184 ?_
                refine g_iinc rfl (by decide) dX8_words_186 ?_
                refine g_goto (t := 142) dX8_words_189 (by decide) ?_
                first
                  | (refine g_subl [(0, vR 44), (1, vI (M : Int)), (2, vI (c : Int)), (3, vJ (eP v (J + 1)).1), (5, vJ (eP v (J + 1)).2), (7, vI (J : Int)), (8, vJ p.1), (10, vJ p.2), (12, vI (i : Int)), (13, vI 1), (14, vI ((k + 1 : Nat) : Int))] rfl ?_
                     exact ih3 (k + 1) (by omega) (by omega) 1 (Or.inl ⟨rfl, hyes⟩))
                  | (refine g_subl [(0, vR 44), (1, vI (M : Int)), (2, vI (c : Int)), (3, vJ (eP v (J + 1)).1), (5, vJ (eP v (J + 1)).2), (7, vI (J : Int)), (8, vJ p.1), (10, vJ p.2), (12, vI (i : Int)), (13, vI 0), (14, vI ((k + 1 : Nat) : Int))] rfl ?_
                     exact ih3 (k + 1) (by omega) (by omega) 0 (Or.inr ⟨rfl, hno2⟩))
              · have hyes : p = (0, 0) ∨ ∃ q, q < k + 1 ∧ cuC X3 q = p := Or.inr ⟨k, by omega, Prod.ext b162 b175⟩
                refine g_iconst dX8_words_179 ?_
                refine g_goto (t := 184) dX8_words_180 (by decide) ?_
                refine g_istore (by decide) dX8_words_184 ?_
                refine g_iinc rfl (by decide) dX8_words_186 ?_
                refine g_goto (t := 142) dX8_words_189 (by decide) ?_
                first
                  | (refine g_subl [(0, vR 44), (1, vI (M : Int)), (2, vI (c : Int)), (3, vJ (eP v (J + 1)).1), (5, vJ (eP v (J + 1)).2), (7, vI (J : Int)), (8, vJ p.1), (10, vJ p.2), (12, vI (i : Int)), (13, vI 1), (14, vI ((k + 1 : Nat) : Int))] rfl ?_
                     exact ih3 (k + 1) (by omega) (by omega) 1 (Or.inl ⟨rfl, hyes⟩))
                  | (refine g_subl [(0, vR 44), (1, vI (M : Int)), (2, vI (c : Int)), (3, vJ (eP v (J + 1)).1), (5, vJ (eP v (J + 1)).2), (7, vI (J : Int)), (8, vJ p.1), (10, vJ p.2), (12, vI (i : Int)), (13, vI 0), (14, vI ((k + 1 : Nat) : Int))] rfl ?_
                     exact ih3 (k + 1) (by omega) (by omega) 0 (Or.inr ⟨rfl, hno2⟩))
      have pt : i < M → ∀ X3, FrW X X3 → CuI v M J i c X3 → G l g mX8_words κ K 118 [(0, vR 44), (1, vI (M : Int)), (2, vI (c : Int)), (3, vJ (eP v (J + 1)).1), (5, vJ (eP v (J + 1)).2), (7, vI (J : Int)), (8, vJ p.1), (10, vJ p.2), (12, vI (i : Int))] [] X3 := by
        intro hiM X3 hfr3 hC3
        refine g_lload rfl dX8_words_118 ?_
        refine g_lconst rfl dX8_words_120 ?_
        refine g_lne (t := 136) dX8_words_121 dX8_words_122 (by decide) (by first | omega | (simp [st2]; done) | (simp [st2]; omega)) (by first | omega | (simp [st2]; done) | (simp [st2]; omega)) (fun b121 => ?_) (fun b121 => ?_)
        · have hno : ¬ (p = (0, 0) ∨ ∃ q, q < 0 ∧ cuC X3 q = p) := by
            rintro (z | ⟨q, hq, z⟩)
            · exact b121 (congrArg Prod.fst z)
            · omega
          refine g_iconst dX8_words_136 ?_
          refine g_istore (by decide) dX8_words_137 ?_
          refine g_iconst dX8_words_139 ?_
          refine g_istore (by decide) dX8_words_140 ?_
          first
            | (refine g_subl [(0, vR 44), (1, vI (M : Int)), (2, vI (c : Int)), (3, vJ (eP v (J + 1)).1), (5, vJ (eP v (J + 1)).2), (7, vI (J : Int)), (8, vJ p.1), (10, vJ p.2), (12, vI (i : Int)), (13, vI 1), (14, vI ((0 : Nat) : Int))] rfl ?_
               exact scan hiM X3 hfr3 hC3 0 (by omega) 1 (Or.inl ⟨rfl, hyes⟩))
            | (refine g_subl [(0, vR 44), (1, vI (M : Int)), (2, vI (c : Int)), (3, vJ (eP v (J + 1)).1), (5, vJ (eP v (J + 1)).2), (7, vI (J : Int)), (8, vJ p.1), (10, vJ p.2), (12, vI (i : Int)), (13, vI 0), (14, vI ((0 : Nat) : Int))] rfl ?_
               exact scan hiM X3 hfr3 hC3 0 (by omega) 0 (Or.inr ⟨rfl, hno⟩))
        · refine g_lload rfl dX8_words_125 ?_
          refine g_lconst rfl dX8_words_127 ?_
          refine g_lne (t := 136) dX8_words_128 dX8_words_129 (by decide) (by first | omega | (simp [st2]; done) | (simp [st2]; omega)) (by first | omega | (simp [st2]; done) | (simp [st2]; omega)) (fun b128 => ?_) (fun b128 => ?_)
          · have hno : ¬ (p = (0, 0) ∨ ∃ q, q < 0 ∧ cuC X3 q = p) := by
              rintro (z | ⟨q, hq, z⟩)
              · exact b128 (congrArg Prod.snd z)
              · omega
            refine g_iconst dX8_words_136 ?_
            refine g_istore (by decide) dX8_words_137 ?_
            refine g_iconst dX8_words_139 ?_
            refine g_istore (by decide) dX8_words_140 ?_
            first
              | (refine g_subl [(0, vR 44), (1, vI (M : Int)), (2, vI (c : Int)), (3, vJ (eP v (J + 1)).1), (5, vJ (eP v (J + 1)).2), (7, vI (J : Int)), (8, vJ p.1), (10, vJ p.2), (12, vI (i : Int)), (13, vI 1), (14, vI ((0 : Nat) : Int))] rfl ?_
                 exact scan hiM X3 hfr3 hC3 0 (by omega) 1 (Or.inl ⟨rfl, hyes⟩))
              | (refine g_subl [(0, vR 44), (1, vI (M : Int)), (2, vI (c : Int)), (3, vJ (eP v (J + 1)).1), (5, vJ (eP v (J + 1)).2), (7, vI (J : Int)), (8, vJ p.1), (10, vJ p.2), (12, vI (i : Int)), (13, vI 0), (14, vI ((0 : Nat) : Int))] rfl ?_
                 exact scan hiM X3 hfr3 hC3 0 (by omega) 0 (Or.inr ⟨rfl, hno⟩))
          · have hyes : p = (0, 0) ∨ ∃ q, q < 0 ∧ cuC X3 q = p := Or.inl (Prod.ext b121 b128)
            refine g_iconst dX8_words_132 ?_
            refine g_goto (t := 137) dX8_words_133 (by decide) ?_
            refine g_istore (by decide) dX8_words_137 ?_
            refine g_iconst dX8_words_139 ?_
            refine g_istore (by decide) dX8_words_140 ?_
            first
              | (refine g_subl [(0, vR 44), (1, vI (M : Int)), (2, vI (c : Int)), (3, vJ (eP v (J + 1)).1), (5, vJ (eP v (J + 1)).2), (7, vI (J : Int)), (8, vJ p.1), (10, vJ p.2), (12, vI (i : Int)), (13, vI 1), (14, vI ((0 : Nat) : Int))] rfl ?_
                 exact scan hiM X3 hfr3 hC3 0 (by omega) 1 (Or.inl ⟨rfl, hyes⟩))
              | (refine g_subl [(0, vR 44), (1, vI (M : Int)), (2, vI (c : Int)), (3, vJ (eP v (J + 1)).1), (5, vJ (eP v (J + 1)).2), (7, vI (J : Int)), (8, vJ p.1), (10, vJ p.2), (12, vI (i : Int)), (13, vI 0), (14, vI ((0 : Nat) : Int))] rfl ?_
                 exact scan hiM X3 hfr3 hC3 0 (by omega) 0 (Or.inr ⟨rfl, hno⟩))
      have hMv : MvM X2 v := hX.fr (hfr 44 0 (by omega) (by omega) (by omega)) (hfr 44 5 (by omega) (by omega) (by omega)) (fun d j q1 q2 => hfr d j (by omega) (by omega) (by omega))
      refine g_iload rfl dX8_words_86 ?_
      refine g_iload_n rfl dX8_words_88 ?_
      refine g_icmp_ge (t := 225) dX8_words_89 (by decide) (by first | omega | (simp [st2]; done) | (simp [st2]; omega)) (by first | omega | (simp [st2]; done) | (simp [st2]; omega)) (fun b89 => ?_) (fun b89 => ?_)
      · refine g_iinc rfl (by decide) dX8_words_225 ?_
        refine g_goto (t := 33) dX8_words_228 (by decide) ?_
        obtain rfl : i = M := by omega
        refine g_subl [(0, vR 44), (1, vI (i : Int)), (2, vI (c : Int)), (3, vJ (eP v (J + 1)).1), (5, vJ (eP v (J + 1)).2), (7, vI ((J + 1 : Nat) : Int))] rfl ?_
        exact ih (J + 1) (by omega) (by omega) c X2 hfr (hC.next (by omega))
      · refine g_iload rfl dX8_words_92 ?_
        refine g_if_le (t := 118) dX8_words_94 (by decide) (by first | omega | (simp [st2]; done) | (simp [st2]; omega)) (fun b94 => ?_) (fun b94 => ?_)
        · first
            | (have e0 : bkI v (i - 1) (eP v (J + 1)) = p := by
                 rw [ep, show i = 0 by omega]
               rw [e0]
               exact pt (by omega) X2 hfr hC)
            | (refine g_subl [(0, vR 44), (1, vI (M : Int)), (2, vI (c : Int)), (3, vJ (eP v (J + 1)).1), (5, vJ (eP v (J + 1)).2), (7, vI (J : Int)), (8, vJ p.1), (10, vJ p.2), (12, vI (i : Int))] rfl ?_
               refine pt (by omega) X3 (fun d j q1 q2 q3 => ?_) (hC.fr (fun j => ⟨hsc.1 64 j (by decide), hsc.1 65 j (by decide)⟩))
               by_cases z : d = 44
               · rw [z, hsc.2 j (by omega), ← z]
                 exact hfr d j q1 q2 q3
               · rw [hsc.1 d j z]
                 exact hfr d j q1 q2 q3)
        · refine g_aload_n rfl dX8_words_97 ?_
          refine g_lload rfl dX8_words_98 ?_
          refine g_lload rfl dX8_words_100 ?_
          refine g_iconst dX8_words_102 ?_
          refine g_cv3v (M2 := mX8_goes) (ci := 8) dX8_words_103 ml_RX8_163 kX8_goes rfl (by first | rfl | assumption) (by decide) rfl (by unfold Rm; decide) (Nat.le_of_ble_eq_true rfl) (ct_X8_goes (f := vu v) (h := va v) (Or.inr ⟨rfl, rfl, rfl⟩) hMv hv hok0.1 hok0.2 (fun X3 hsc eA eB => ?_))
          have es : p = bkP v (bkI v (i - 1) (eP v (J + 1))) := by
            rw [ep]
            obtain ⟨i2, hi2⟩ : ∃ i2, i = i2 + 1 := ⟨i - 1, by omega⟩
            rw [hi2]
            rfl
          have eA2 : X3 44 18 = p.1 := by rw [eA, es]; rfl
          have eB2 : X3 44 19 = p.2 := by rw [eB, es]; rfl
          refine g_aload_n rfl dX8_words_106 ?_
          refine gf_X8_139 rfl (by first | rfl | assumption) dX8_words_107 ?_
          rw [eA2]
          refine g_lstore (by decide) dX8_words_110 ?_
          refine g_aload_n rfl dX8_words_112 ?_
          refine gf_X8_142 rfl (by first | rfl | assumption) dX8_words_113 ?_
          rw [eB2]
          refine g_lstore (by decide) dX8_words_116 ?_
          first
            | (have e0 : bkI v (i - 1) (eP v (J + 1)) = p := by
                 rw [ep, show i = 0 by omega]
               rw [e0]
               exact pt (by omega) X2 hfr hC)
            | (refine g_subl [(0, vR 44), (1, vI (M : Int)), (2, vI (c : Int)), (3, vJ (eP v (J + 1)).1), (5, vJ (eP v (J + 1)).2), (7, vI (J : Int)), (8, vJ p.1), (10, vJ p.2), (12, vI (i : Int))] rfl ?_
               refine pt (by omega) X3 (fun d j q1 q2 q3 => ?_) (hC.fr (fun j => ⟨hsc.1 64 j (by decide), hsc.1 65 j (by decide)⟩))
               by_cases z : d = 44
               · rw [z, hsc.2 j (by omega), ← z]
                 exact hfr d j q1 q2 q3
               · rw [hsc.1 d j z]
                 exact hfr d j q1 q2 q3)
    refine g_iload rfl dX8_words_33 ?_
    refine g_iconst dX8_words_35 ?_
    refine g_iadd dX8_words_36 ?_
    refine g_aload_n rfl dX8_words_37 ?_
    refine gf_X8_94 rfl (by first | rfl | assumption) dX8_words_38 ?_
    refine g_icmp_ge (t := 231) dX8_words_41 (by decide) (by first | omega | (simp [st2]; done) | (simp [st2]; omega)) (by first | omega | (simp [st2]; done) | (simp [st2]; omega)) (fun b41 => ?_) (fun b41 => ?_)
    · refine g_iload_n rfl dX8_words_231 ?_
      refine g_iconst dX8_words_232 ?_
      refine g_iadd dX8_words_233 ?_
      refine g_ireturn rfl dX8_words_234 ?_
      obtain rfl : J = vn v - 1 := by omega
      exact kE (h2 hn0 hm1 X2 hfr) (by have := words_eq hv (m := M) (by omega) hC.fin; omega)
    · have hJ1 : J + 1 < vn v := by omega
      have haJ := hv.2.2.2.2.1.1 J (by omega)
      have e50 : X2 50 J = (va v J : Int) := (hfr 50 J (by omega) (by omega) (by omega)).trans (hX.2.2.1 J (by omega)).2.2.1
      have e48 : X2 48 (va v J) = vA v (va v J) := (hfr 48 _ (by omega) (by omega) (by omega)).trans (hX.2.2.1 _ haJ).1
      have e49 : X2 49 (va v J) = vB v (va v J) := (hfr 49 _ (by omega) (by omega) (by omega)).trans (hX.2.2.1 _ haJ).2.1
      refine g_lload_n rfl dX8_words_44 ?_
      refine g_aload_n rfl dX8_words_45 ?_
      refine gf_X8_19 (c2 := 48) rfl rfl (by first | rfl | assumption) dX8_words_46 ?_
      refine g_aload_n rfl dX8_words_49 ?_
      refine gf_X8_26 (c2 := 50) rfl rfl (by first | rfl | assumption) dX8_words_50 ?_
      refine g_iload rfl dX8_words_53 ?_
      refine g_iald (n := 8) (_) (by first | rfl | assumption) (by first | rfl | assumption) rfl (by first | omega | (simp [st2]; done) | (simp [st2]; omega)) (by first | omega | (simp [st2]; done) | (simp [st2]; omega)) dX8_words_55 ?_
      rw [e50]
      refine g_lald (n := 8) (va v J) (by first | rfl | assumption) (by first | rfl | assumption) (by omega) (by first | omega | (simp [st2]; done) | (simp [st2]; omega)) (by first | omega | (simp [st2]; done) | (simp [st2]; omega)) dX8_words_56 ?_
      rw [e48]
      refine g_ladd dX8_words_57 ?_
      refine g_lstore_n (by decide) dX8_words_58 ?_
      refine g_lload rfl dX8_words_59 ?_
      refine g_aload_n rfl dX8_words_61 ?_
      refine gf_X8_23 (c2 := 49) rfl rfl (by first | rfl | assumption) dX8_words_62 ?_
      refine g_aload_n rfl dX8_words_65 ?_
      refine gf_X8_26 (c2 := 50) rfl rfl (by first | rfl | assumption) dX8_words_66 ?_
      refine g_iload rfl dX8_words_69 ?_
      refine g_iald (n := 8) (_) (by first | rfl | assumption) (by first | rfl | assumption) rfl (by first | omega | (simp [st2]; done) | (simp [st2]; omega)) (by first | omega | (simp [st2]; done) | (simp [st2]; omega)) dX8_words_71 ?_
      rw [e50]
      refine g_lald (n := 8) (va v J) (by first | rfl | assumption) (by first | rfl | assumption) (by omega) (by first | omega | (simp [st2]; done) | (simp [st2]; omega)) (by first | omega | (simp [st2]; done) | (simp [st2]; omega)) dX8_words_72 ?_
      rw [e49]
      refine g_ladd dX8_words_73 ?_
      refine g_lstore (by decide) dX8_words_74 ?_
      refine g_lload_n rfl dX8_words_76 ?_
      refine g_lstore (by decide) dX8_words_77 ?_
      refine g_lload rfl dX8_words_79 ?_
      refine g_lstore (by decide) dX8_words_81 ?_
      refine g_iconst dX8_words_83 ?_
      refine g_istore (by decide) dX8_words_84 ?_
      refine g_subl [(0, vR 44), (1, vI (M : Int)), (2, vI (c : Int)), (3, vJ (eP v (J + 1)).1), (5, vJ (eP v (J + 1)).2), (7, vI (J : Int)), (8, vJ (bkI v (0 - 1) (eP v (J + 1))).1), (10, vJ (bkI v (0 - 1) (eP v (J + 1))).2), (12, vI ((0 : Nat) : Int))] rfl ?_
      exact inner hJ1 0 (by omega) c X2 hfr hC
  refine g_aload_n rfl dX8_words_0 ?_
  refine gf_X8_94 rfl (by first | rfl | assumption) dX8_words_1 ?_
  refine g_if_ne (t := 9) dX8_words_4 (by decide) (by first | omega | (simp [st2]; done) | (simp [st2]; omega)) (fun b4 => ?_) (fun b4 => ?_)
  · refine g_iload_n rfl dX8_words_9 ?_
    refine g_iconst dX8_words_10 ?_
    refine g_icmp_lt (t := 20) dX8_words_11 (by decide) (by first | omega | (simp [st2]; done) | (simp [st2]; omega)) (by first | omega | (simp [st2]; done) | (simp [st2]; omega)) (fun b11 => ?_) (fun b11 => ?_)
    · exfalso; omega
    · refine g_iload_n rfl dX8_words_14 ?_
      refine g_bipush (by decide) dX8_words_15 ?_
      refine g_icmp_le (t := 23) dX8_words_17 (by decide) (by first | omega | (simp [st2]; done) | (simp [st2]; omega)) (by first | omega | (simp [st2]; done) | (simp [st2]; omega)) (fun b17 => ?_) (fun b17 => ?_)
      · refine g_iconst dX8_words_23 ?_
        refine g_istore_n (by decide) dX8_words_24 ?_
        refine g_lconst rfl dX8_words_25 ?_
        refine g_lstore_n (by decide) dX8_words_26 ?_
        refine g_lconst rfl dX8_words_27 ?_
        refine g_lstore (by decide) dX8_words_28 ?_
        refine g_iconst dX8_words_30 ?_
        refine g_istore (by decide) dX8_words_31 ?_
        refine g_subl [(0, vR 44), (1, vI (M : Int)), (2, vI ((0 : Nat) : Int)), (3, vJ (eP v 0).1), (5, vJ (eP v 0).2), (7, vI ((0 : Nat) : Int))] rfl ?_
        exact loop 0 (by omega) 0 X (fun _ _ _ _ _ => rfl) (CuI.zero v M X)
      · exfalso; omega
  · exfalso; omega
