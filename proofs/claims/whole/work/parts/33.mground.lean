/-! the reference's GROUND -/
theorem ct_X8_cornerOf {l : Launch} {g : Geo} {X : Mm} {K : AV → Mm → Prop} {n j : Nat} {w : Int} (hw : w = 0 ∨ w = 1) (hn : X 44 5 = (n : Int)) (hn8 : n ≤ 8) (hj : j ≤ n) (hk : K (vI (if w = 0 then (j : Int) else (cb n j : Int))) X) : Ct l g mX8_cornerOf [vR 44, vI w, vI (j : Int)] X K := by
  refine enter (by decide) (Nat.le_of_ble_eq_true rfl) (fun κ => ?_)
  unfold cb at hk
  refine g_iload_n rfl dX8_cornerOf_0 ?_
  refine g_if_eq (t := 16) dX8_cornerOf_1 (by decide) (by first | omega | (simp [st2]; done) | (simp [st2]; omega)) (fun b1 => ?_) (fun b1 => ?_)
  · refine g_iload_n rfl dX8_cornerOf_16 ?_
    refine g_goto (t := 26) dX8_cornerOf_17 (by decide) ?_
    refine g_ireturn rfl dX8_cornerOf_26 ?_
    refine kE hk ?_
    repeat' split
    all_goals omega
  · refine g_iload_n rfl dX8_cornerOf_4 ?_
    refine g_if_eq (t := 16) dX8_cornerOf_5 (by decide) (by first | omega | (simp [st2]; done) | (simp [st2]; omega)) (fun b5 => ?_) (fun b5 => ?_)
    · refine g_iload_n rfl dX8_cornerOf_16 ?_
      refine g_goto (t := 26) dX8_cornerOf_17 (by decide) ?_
      refine g_ireturn rfl dX8_cornerOf_26 ?_
      refine kE hk ?_
      repeat' split
      all_goals omega
    · refine g_iload_n rfl dX8_cornerOf_8 ?_
      refine g_aload_n rfl dX8_cornerOf_9 ?_
      refine gf_X8_94 rfl (by first | rfl | assumption) dX8_cornerOf_10 ?_
      refine g_icmp_ne (t := 20) dX8_cornerOf_13 (by decide) (by first | omega | (simp [st2]; done) | (simp [st2]; omega)) (by first | omega | (simp [st2]; done) | (simp [st2]; omega)) (fun b13 => ?_) (fun b13 => ?_)
      · refine g_aload_n rfl dX8_cornerOf_20 ?_
        refine gf_X8_94 rfl (by first | rfl | assumption) dX8_cornerOf_21 ?_
        refine g_iload_n rfl dX8_cornerOf_24 ?_
        refine g_iadd dX8_cornerOf_25 ?_
        refine g_ireturn rfl dX8_cornerOf_26 ?_
        refine kE hk ?_
        repeat' split
        all_goals omega
      · refine g_iload_n rfl dX8_cornerOf_16 ?_
        refine g_goto (t := 26) dX8_cornerOf_17 (by decide) ?_
        refine g_ireturn rfl dX8_cornerOf_26 ?_
        refine kE hk ?_
        repeat' split
        all_goals omega
theorem ct_X8_placeOf {l : Launch} {g : Geo} {X : Mm} {K : AV → Mm → Prop} {n o w : Nat} {f : Nat → Nat} (hn8 : n ≤ 8) (hf : Perm f n) (ho9 : kd o = 9) (ho8 : ln o = 8) (ho : Rw X o n f) (hw : w < n) (hk : K (vI (posI f w n : Int)) X) : Ct l g mX8_placeOf [vR 44, vR o, vI (w : Int)] X K := by
  refine enter (by decide) (Nat.le_of_ble_eq_true rfl) (fun κ => ?_)
  obtain ⟨p, ep⟩ : ∃ p, p = posI f w n := ⟨_, rfl⟩
  have hps := posI_spec hf hw
  rw [← ep] at hk hps
  have loop1 : ∀ i : Nat, i ≤ n → p = srch (fun j => f j == w) i n → G l g mX8_placeOf κ K 2 [(0, vR 44), (1, vR o), (2, vI (w : Int)), (3, vI (i : Int))] [] X := by
    refine upTo n ?_
    intro i hi ih hs
    have hin : i < n := by
      rcases Nat.lt_or_ge i n with z | z
      · exact z
      · rw [srch_end z] at hs
        omega
    have hoi := ho i hin
    have hfi := hf.1 i hin
    refine g_aload_n rfl dX8_placeOf_2 ?_
    refine g_iload_n rfl dX8_placeOf_3 ?_
    refine g_iald (n := 8) (_) (by first | rfl | assumption) (by first | rfl | assumption) rfl (by first | omega | (simp [st2]; done) | (simp [st2]; omega)) (by first | omega | (simp [st2]; done) | (simp [st2]; omega)) dX8_placeOf_4 ?_
    refine g_iload_n rfl dX8_placeOf_5 ?_
    refine g_icmp_eq (t := 15) dX8_placeOf_6 (by decide) (by first | omega | (simp [st2]; done) | (simp [st2]; omega)) (by first | omega | (simp [st2]; done) | (simp [st2]; omega)) (fun b6 => ?_) (fun b6 => ?_)
    · have hq : (fun j => f j == w) i = true := by
        simp only [beq_iff_eq]
        omega
      rw [srch_hit (p := fun j => f j == w) hin hq] at hs
      refine g_iload_n rfl dX8_placeOf_15 ?_
      refine g_ireturn rfl dX8_placeOf_16 ?_
      rw [hs] at hk
      exact hk
    · have hq : ¬ (fun j => f j == w) i = true := by
        simp only [beq_iff_eq]
        omega
      rw [srch_miss (p := fun j => f j == w) hin hq] at hs
      refine g_iinc rfl (by decide) dX8_placeOf_9 ?_
      refine g_goto (t := 2) dX8_placeOf_12 (by decide) ?_
      refine g_subl [(0, vR 44), (1, vR o), (2, vI (w : Int)), (3, vI ((i + 1 : Nat) : Int))] rfl ?_
      exact ih (i + 1) (by omega) (by omega) hs
  refine g_iconst dX8_placeOf_0 ?_
  refine g_istore_n (by decide) dX8_placeOf_1 ?_
  refine g_subl [(0, vR 44), (1, vR o), (2, vI (w : Int)), (3, vI ((0 : Nat) : Int))] rfl ?_
  exact loop1 0 (by omega) ep
set_option maxRecDepth 100000 in
theorem ct_X8_glues {l : Launch} {g : Geo} {X : Mm} {K : AV → Mm → Prop} {n a b : Nat} {f : Nat → Nat} (hn : X 44 5 = (n : Int)) (hn8 : n ≤ 8) (hf : Rw X 69 (2 * n) f) (hl : ∀ c, c < 2 * n → f c < 2 * n) (ha : a < 2 * n) (hb : b < 2 * n) (hk : ∀ X2, (∀ d j, d ≠ 69 → X2 d j = X d j) → Rw X2 69 (2 * n) (jn f b a) → K (vI 0) X2) : Ct l g mX8_glues [vR 44, vI (a : Int), vI (b : Int)] X K := by
  refine enter (by decide) (Nat.le_of_ble_eq_true rfl) (fun κ => ?_)
  have ea : X 69 a = (f a : Int) := hf a ha
  have eb : X 69 b = (f b : Int) := hf b hb
  have la := hl a ha
  have lb := hl b hb
  have loop : ∀ i, i ≤ 2 * n → ∀ X2, (∀ d j, d ≠ 69 → X2 d j = X d j) → (∀ c, c < 2 * n → X2 69 c = ((if c < i then jn f b a c else f c : Nat) : Int)) → G l g mX8_glues κ K 18 [(0, vR 44), (3, vI (f a : Int)), (4, vI (f b : Int)), (5, vI (i : Int))] [] X2 := by
    refine upTo (2 * n) ?_
    intro i hi ih X2 hfr hrow
    have z0 : X2 44 5 = (n : Int) := by rw [hfr 44 5 (by decide)]; exact hn
    refine g_iload rfl dX8_glues_18 ?_
    refine g_iconst dX8_glues_20 ?_
    refine g_aload_n rfl dX8_glues_21 ?_
    refine gf_X8_94 rfl (by first | rfl | assumption) dX8_glues_22 ?_
    refine g_imul dX8_glues_25 ?_
    refine g_icmp_ge (t := 55) dX8_glues_26 (by decide) (by first | omega | (simp [st2]; done) | (simp [st2]; omega)) (by first | omega | (simp [st2]; done) | (simp [st2]; omega)) (fun b26 => ?_) (fun b26 => ?_)
    · refine g_return rfl dX8_glues_55 ?_
      refine hk X2 hfr (fun c hc => ?_)
      rw [hrow c hc, if_pos (by omega)]
    · have hri := hrow i (by omega)
      rw [if_neg (by omega)] at hri
      have lc := hl i (by omega)
      refine g_aload_n rfl dX8_glues_29 ?_
      refine gf_X8_84 (c2 := 69) rfl rfl (by first | rfl | assumption) dX8_glues_30 ?_
      refine g_iload rfl dX8_glues_33 ?_
      refine g_iald (n := 16) (_) (by first | rfl | assumption) (by first | rfl | assumption) rfl (by first | omega | (simp [st2]; done) | (simp [st2]; omega)) (by first | omega | (simp [st2]; done) | (simp [st2]; omega)) dX8_glues_35 ?_
      refine g_iload_n rfl dX8_glues_36 ?_
      refine g_icmp_ne (t := 49) dX8_glues_37 (by decide) (by first | omega | (simp [st2]; done) | (simp [st2]; omega)) (by first | omega | (simp [st2]; done) | (simp [st2]; omega)) (fun b37 => ?_) (fun b37 => ?_)
      · refine g_iinc rfl (by decide) dX8_glues_49 ?_
        refine g_goto (t := 18) dX8_glues_52 (by decide) ?_
        refine g_subl [(0, vR 44), (3, vI (f a : Int)), (4, vI (f b : Int)), (5, vI ((i + 1 : Nat) : Int))] rfl ?_
        refine ih (i + 1) (by omega) (by omega) _ (fun d j hd => by first | exact hfr d j hd | (simp only [st2, if_neg hd]; exact hfr d j hd)) (fun c hc => ?_)
        by_cases z : c = i
        · subst z
          rw [if_pos (by omega)]
          unfold jn
          first
            | (rw [if_pos (by omega)]
               simp [st2]
               done)
            | (rw [if_neg (by omega)]
               exact hri)
        · first
            | (rw [hrow c hc]
               by_cases z2 : c < i
               · rw [if_pos z2, if_pos (by omega)]
               · rw [if_neg z2, if_neg (by omega)])
            | (simp only [st2, if_true, if_neg z]
               rw [hrow c hc]
               by_cases z2 : c < i
               · rw [if_pos z2, if_pos (by omega)]
               · rw [if_neg z2, if_neg (by omega)])
      · refine g_aload_n rfl dX8_glues_40 ?_
        refine gf_X8_84 (c2 := 69) rfl rfl (by first | rfl | assumption) dX8_glues_41 ?_
        refine g_iload rfl dX8_glues_44 ?_
        refine g_iload rfl dX8_glues_46 ?_
        refine g_iast (n := 16) (_) (by first | rfl | assumption) (by first | rfl | assumption) rfl (by first | omega | (simp [st2]; done) | (simp [st2]; omega)) (by first | omega | (simp [st2]; done) | (simp [st2]; omega)) dX8_glues_48 ?_
        refine g_iinc rfl (by decide) dX8_glues_49 ?_
        refine g_goto (t := 18) dX8_glues_52 (by decide) ?_
        refine g_subl [(0, vR 44), (3, vI (f a : Int)), (4, vI (f b : Int)), (5, vI ((i + 1 : Nat) : Int))] rfl ?_
        refine ih (i + 1) (by omega) (by omega) _ (fun d j hd => by first | exact hfr d j hd | (simp only [st2, if_neg hd]; exact hfr d j hd)) (fun c hc => ?_)
        by_cases z : c = i
        · subst z
          rw [if_pos (by omega)]
          unfold jn
          first
            | (rw [if_pos (by omega)]
               simp [st2]
               done)
            | (rw [if_neg (by omega)]
               exact hri)
        · first
            | (rw [hrow c hc]
               by_cases z2 : c < i
               · rw [if_pos z2, if_pos (by omega)]
               · rw [if_neg z2, if_neg (by omega)])
            | (simp only [st2, if_true, if_neg z]
               rw [hrow c hc]
               by_cases z2 : c < i
               · rw [if_pos z2, if_pos (by omega)]
               · rw [if_neg z2, if_neg (by omega)])
  refine g_aload_n rfl dX8_glues_0 ?_
  refine gf_X8_84 (c2 := 69) rfl rfl (by first | rfl | assumption) dX8_glues_1 ?_
  refine g_iload_n rfl dX8_glues_4 ?_
  refine g_iald (n := 16) (_) (by first | rfl | assumption) (by first | rfl | assumption) rfl (by first | omega | (simp [st2]; done) | (simp [st2]; omega)) (by first | omega | (simp [st2]; done) | (simp [st2]; omega)) dX8_glues_5 ?_
  rw [ea]
  refine g_istore_n (by decide) dX8_glues_6 ?_
  refine g_aload_n rfl dX8_glues_7 ?_
  refine gf_X8_84 (c2 := 69) rfl rfl (by first | rfl | assumption) dX8_glues_8 ?_
  refine g_iload_n rfl dX8_glues_11 ?_
  refine g_iald (n := 16) (_) (by first | rfl | assumption) (by first | rfl | assumption) rfl (by first | omega | (simp [st2]; done) | (simp [st2]; omega)) (by first | omega | (simp [st2]; done) | (simp [st2]; omega)) dX8_glues_12 ?_
  rw [eb]
  refine g_istore (by decide) dX8_glues_13 ?_
  refine g_iconst dX8_glues_15 ?_
  refine g_istore (by decide) dX8_glues_16 ?_
  refine g_subl [(0, vR 44), (3, vI (f a : Int)), (4, vI (f b : Int)), (5, vI ((0 : Nat) : Int))] rfl ?_
  exact loop 0 (by omega) X (fun _ _ _ => rfl) (fun c hc => by rw [if_neg (by omega)]; exact hf c hc)
