/-! the reference's MOVES -/
def Sc (X X2 : Mm) : Prop := (∀ c j, c ≠ 44 → X2 c j = X c j) ∧ ∀ j, (j < 16 ∨ 19 < j) → X2 44 j = X 44 j
theorem Sc.rf (X : Mm) : Sc X X := ⟨fun _ _ _ => rfl, fun _ _ => rfl⟩
theorem Sc.tr {X Y Z : Mm} (h : Sc X Y) (k : Sc Y Z) : Sc X Z := ⟨fun c j hc => (k.1 c j hc).trans (h.1 c j hc), fun j hj => (k.2 j hj).trans (h.2 j hj)⟩
theorem Sc.lf (X : Mm) (a b : Int) : Sc X (lf X a b) := ⟨fun c j hc => lf_o X a b hc j, fun j hj => lf_k X a b (by omega) (by omega)⟩
theorem MvM.sc {X X2 : Mm} {v : Mv} (h : Sc X X2) (hX : MvM X v) : MvM X2 v := by
  obtain ⟨x1, x2, x3, x4⟩ := hX
  refine ⟨by rw [h.2 5 (by omega)]; exact x1, by rw [h.2 0 (by omega)]; exact x2, fun k hk => ?_, fun i j hi hj => ?_⟩
  · rw [h.1 48 k (by decide), h.1 49 k (by decide), h.1 50 k (by decide), h.1 51 k (by decide)]
    exact x3 k hk
  · rw [h.1 52 _ (by decide)]
    exact x4 i j hi hj
def gA (v : Mv) (f h : Nat → Nat) (a b : Int) : Int := a + shA v (vA v) f h (val (vr v) a b)
def gB (v : Mv) (f h : Nat → Nat) (a b : Int) : Int := b + shA v (vB v) f h (val (vr v) a b)
/-- a place on the line -/
def pV (v : Mv) (a b : Int) : Prop := (vr v = 0 → b = 0) ∧ onL v a b
theorem go_pV {v : Mv} (hv : Vd v) {f h : Nat → Nat} (hf : Perm f (vn v)) (hh : Perm h (vn v)) {a b : Int} (hp : pV v a b) : pV v (gA v f h a b) (gB v f h a b) ∧ (-262144 ≤ gA v f h a b - a ∧ gA v f h a b - a ≤ 262144) ∧ (-262144 ≤ gB v f h a b - b ∧ gB v f h a b - b ≤ 262144) := by
  obtain ⟨h0, h1⟩ := hp
  have ho := go_on hv hf hh h1
  have hs := sidx_spec h1.1 (by rw [hv.tot hf]; exact h1.2)
  have q1 := hv.psA hf (j := sidx v f (val (vr v) a b)) (by omega)
  have hpp := posI_spec hh (hf.1 _ hs.1)
  have q2 := hv.psA hh (j := posI h (f (sidx v f (val (vr v) a b))) (vn v)) (by omega)
  refine ⟨⟨fun e => ?_, ho⟩, ?_, ?_⟩
  · have z1 := q1.2.2 e
    have z2 := q2.2.2 e
    have z3 := h0 e
    unfold gB shA
    omega
  · unfold gA shA
    omega
  · unfold gB shA
    omega
set_option maxRecDepth 100000 in
set_option maxHeartbeats 4000000 in
theorem ct_X8_goes {l : Launch} {g : Geo} {X : Mm} {K : AV → Mm → Prop} {v : Mv} {a b t : Int} {f h : Nat → Nat} (ht : (t = 0 ∧ f = va v ∧ h = vu v) ∨ (t = 1 ∧ f = vu v ∧ h = va v)) (hX : MvM X v) (hv : Vd v) (hb : pB a b) (hp : pV v a b) (hk : ∀ X2, Sc X X2 → X2 44 18 = gA v f h a b → X2 44 19 = gB v f h a b → K (vI 0) X2) : Ct l g mX8_goes [vR 44, vJ a, vJ b, vI t] X K := by
  refine enter (by decide) (Nat.le_of_ble_eq_true rfl) (fun κ => ?_)
  have hf1 := hv.2.2.2.2.1
  have hf2 := hv.2.2.2.2.2.1
  have sc1 : ∀ (c d p q : Int), Sc X (st2 (st2 (lf X p q) 44 18 c) 44 19 d) := fun c d p q => (Sc.lf X p q).tr ⟨fun c j hc => by simp [st2, hc], fun j hj => by
    have z1 : j ≠ 18 := by omega
    have z2 : j ≠ 19 := by omega
    simp [st2, z1, z2]⟩
  have sc2 : ∀ (Y : Mm) (c d p q : Int), Sc X Y → Sc X (st2 (st2 (lf Y p q) 44 18 c) 44 19 d) := fun Y c d p q hY => hY.tr ((Sc.lf Y p q).tr ⟨fun c j hc => by simp [st2, hc], fun j hj => by
    have z1 : j ≠ 18 := by omega
    have z2 : j ≠ 19 := by omega
    simp [st2, z1, z2]⟩)
  rcases ht with ⟨rfl, rfl, rfl⟩ | ⟨rfl, rfl, rfl⟩
  · have hs := sidx_spec hp.2.1 (by rw [hv.tot hf1]; exact hp.2.2)
    refine g_aload_n rfl dX8_goes_0 ?_
    refine g_iload rfl dX8_goes_1 ?_
    refine g_if_eq (t := 13) dX8_goes_3 (by decide) (by first | omega | (simp [st2]; done) | (simp [st2]; omega)) (fun b3 => ?_) (fun b3 => ?_)
    · refine g_aload_n rfl dX8_goes_13 ?_
      refine gf_X8_26 (c2 := 50) rfl rfl (by first | rfl | assumption) dX8_goes_14 ?_
      refine g_lload_n rfl dX8_goes_17 ?_
      refine g_lload_n rfl dX8_goes_18 ?_
      refine g_cv3 (M2 := mX8_spanAt) (ci := 8) dX8_goes_19 ml_RX8_135 kX8_spanAt (by decide) (by first | rfl | assumption) (by decide) rfl (by unfold Rm; decide) (Nat.le_of_ble_eq_true rfl) (ct_X8_spanAt (f := va v) hX hv hf1 rfl rfl (by decide) (fun j hj => (hX.2.2.1 j hj).2.2.1) hb hp.1 hp.2 ?_)
      refine g_istore (by decide) dX8_goes_22 ?_
      refine g_aload_n rfl dX8_goes_24 ?_
      refine g_lload_n rfl dX8_goes_25 ?_
      refine g_aload_n rfl dX8_goes_26 ?_
      refine gf_X8_128 rfl (by first | rfl | assumption) dX8_goes_27 ?_
      refine g_lsub dX8_goes_30 ?_
      refine pf_X8_139 rfl (by first | rfl | assumption) dX8_goes_31 ?_
      refine g_aload_n rfl dX8_goes_34 ?_
      refine g_lload_n rfl dX8_goes_35 ?_
      refine g_aload_n rfl dX8_goes_36 ?_
      refine gf_X8_132 rfl (by first | rfl | assumption) dX8_goes_37 ?_
      refine g_lsub dX8_goes_40 ?_
      refine pf_X8_142 rfl (by first | rfl | assumption) dX8_goes_41 ?_
      refine g_aload_n rfl dX8_goes_44 ?_
      refine g_iload rfl dX8_goes_45 ?_
      refine g_if_eq (t := 57) dX8_goes_47 (by decide) (by first | omega | (simp [st2]; done) | (simp [st2]; omega)) (fun b47 => ?_) (fun b47 => ?_)
      · refine g_aload_n rfl dX8_goes_57 ?_
        refine gf_X8_29 (c2 := 51) rfl rfl (by first | rfl | assumption) dX8_goes_58 ?_
        refine g_iload rfl dX8_goes_61 ?_
        refine g_cv2v (M2 := mX8_begins) (ci := 8) dX8_goes_63 ml_RX8_145 kX8_begins rfl (by first | rfl | assumption) (by decide) rfl (by unfold Rm; decide) (Nat.le_of_ble_eq_true rfl) (ct_X8_begins (v := v) (f := vu v) (hX.sc (sc1 _ _ _ _)) hv hf2 rfl rfl (by decide) (fun j hj => (hX.2.2.1 j hj).2.2.2) (hf1.1 _ hs.1) ?_)
        refine g_aload_n rfl dX8_goes_66 ?_
        refine g_dup rfl dX8_goes_67 ?_
        refine gf_X8_139 rfl (by first | rfl | assumption) dX8_goes_68 ?_
        refine g_aload_n rfl dX8_goes_71 ?_
        refine gf_X8_128 rfl (by first | rfl | assumption) dX8_goes_72 ?_
        refine g_ladd dX8_goes_75 ?_
        refine pf_X8_139 rfl (by first | rfl | assumption) dX8_goes_76 ?_
        refine g_aload_n rfl dX8_goes_79 ?_
        refine g_dup rfl dX8_goes_80 ?_
        refine gf_X8_142 rfl (by first | rfl | assumption) dX8_goes_81 ?_
        refine g_aload_n rfl dX8_goes_84 ?_
        refine gf_X8_132 rfl (by first | rfl | assumption) dX8_goes_85 ?_
        refine g_ladd dX8_goes_88 ?_
        refine pf_X8_142 rfl (by first | rfl | assumption) dX8_goes_89 ?_
        refine g_return rfl dX8_goes_92 ?_
        refine hk _ (sc2 _ _ _ _ _ (sc1 _ _ _ _)) ?_ ?_
        · unfold gA shA
          simp only [lf, st2, if_true, if_false, reduceIte, Nat.reduceEqDiff]
          omega
        · unfold gB shA
          simp only [lf, st2, if_true, if_false, reduceIte, Nat.reduceEqDiff]
          omega
      · exfalso; omega
    · exfalso; omega
  · have hs := sidx_spec hp.2.1 (by rw [hv.tot hf2]; exact hp.2.2)
    refine g_aload_n rfl dX8_goes_0 ?_
    refine g_iload rfl dX8_goes_1 ?_
    refine g_if_eq (t := 13) dX8_goes_3 (by decide) (by first | omega | (simp [st2]; done) | (simp [st2]; omega)) (fun b3 => ?_) (fun b3 => ?_)
    · exfalso; omega
    · refine g_aload_n rfl dX8_goes_6 ?_
      refine gf_X8_29 (c2 := 51) rfl rfl (by first | rfl | assumption) dX8_goes_7 ?_
      refine g_goto (t := 17) dX8_goes_10 (by decide) ?_
      refine g_lload_n rfl dX8_goes_17 ?_
      refine g_lload_n rfl dX8_goes_18 ?_
      refine g_cv3 (M2 := mX8_spanAt) (ci := 8) dX8_goes_19 ml_RX8_135 kX8_spanAt (by decide) (by first | rfl | assumption) (by decide) rfl (by unfold Rm; decide) (Nat.le_of_ble_eq_true rfl) (ct_X8_spanAt (f := vu v) hX hv hf2 rfl rfl (by decide) (fun j hj => (hX.2.2.1 j hj).2.2.2) hb hp.1 hp.2 ?_)
      refine g_istore (by decide) dX8_goes_22 ?_
      refine g_aload_n rfl dX8_goes_24 ?_
      refine g_lload_n rfl dX8_goes_25 ?_
      refine g_aload_n rfl dX8_goes_26 ?_
      refine gf_X8_128 rfl (by first | rfl | assumption) dX8_goes_27 ?_
      refine g_lsub dX8_goes_30 ?_
      refine pf_X8_139 rfl (by first | rfl | assumption) dX8_goes_31 ?_
      refine g_aload_n rfl dX8_goes_34 ?_
      refine g_lload_n rfl dX8_goes_35 ?_
      refine g_aload_n rfl dX8_goes_36 ?_
      refine gf_X8_132 rfl (by first | rfl | assumption) dX8_goes_37 ?_
      refine g_lsub dX8_goes_40 ?_
      refine pf_X8_142 rfl (by first | rfl | assumption) dX8_goes_41 ?_
      refine g_aload_n rfl dX8_goes_44 ?_
      refine g_iload rfl dX8_goes_45 ?_
      refine g_if_eq (t := 57) dX8_goes_47 (by decide) (by first | omega | (simp [st2]; done) | (simp [st2]; omega)) (fun b47 => ?_) (fun b47 => ?_)
      · exfalso; omega
      · refine g_aload_n rfl dX8_goes_50 ?_
        refine gf_X8_26 (c2 := 50) rfl rfl (by first | rfl | assumption) dX8_goes_51 ?_
        refine g_goto (t := 61) dX8_goes_54 (by decide) ?_
        refine g_iload rfl dX8_goes_61 ?_
        refine g_cv2v (M2 := mX8_begins) (ci := 8) dX8_goes_63 ml_RX8_145 kX8_begins rfl (by first | rfl | assumption) (by decide) rfl (by unfold Rm; decide) (Nat.le_of_ble_eq_true rfl) (ct_X8_begins (v := v) (f := va v) (hX.sc (sc1 _ _ _ _)) hv hf1 rfl rfl (by decide) (fun j hj => (hX.2.2.1 j hj).2.2.1) (hf2.1 _ hs.1) ?_)
        refine g_aload_n rfl dX8_goes_66 ?_
        refine g_dup rfl dX8_goes_67 ?_
        refine gf_X8_139 rfl (by first | rfl | assumption) dX8_goes_68 ?_
        refine g_aload_n rfl dX8_goes_71 ?_
        refine gf_X8_128 rfl (by first | rfl | assumption) dX8_goes_72 ?_
        refine g_ladd dX8_goes_75 ?_
        refine pf_X8_139 rfl (by first | rfl | assumption) dX8_goes_76 ?_
        refine g_aload_n rfl dX8_goes_79 ?_
        refine g_dup rfl dX8_goes_80 ?_
        refine gf_X8_142 rfl (by first | rfl | assumption) dX8_goes_81 ?_
        refine g_aload_n rfl dX8_goes_84 ?_
        refine gf_X8_132 rfl (by first | rfl | assumption) dX8_goes_85 ?_
        refine g_ladd dX8_goes_88 ?_
        refine pf_X8_142 rfl (by first | rfl | assumption) dX8_goes_89 ?_
        refine g_return rfl dX8_goes_92 ?_
        refine hk _ (sc2 _ _ _ _ _ (sc1 _ _ _ _)) ?_ ?_
        · unfold gA shA
          simp only [lf, st2, if_true, if_false, reduceIte, Nat.reduceEqDiff]
          omega
        · unfold gB shA
          simp only [lf, st2, if_true, if_false, reduceIte, Nat.reduceEqDiff]
          omega
/-- the point is another one -/
def PtM (X : Mm) (a b : Int) (X2 : Mm) : Prop := (∀ c j, c ≠ 44 → X2 c j = X c j) ∧ (∀ j, (j < 13 ∨ 19 < j) → X2 44 j = X 44 j) ∧ X2 44 13 = 1 ∧ X2 44 14 = a ∧ X2 44 15 = b
theorem MvM.pt {X X2 : Mm} {v : Mv} {a b : Int} (h : PtM X a b X2) (hX : MvM X v) : MvM X2 v := by
  obtain ⟨x1, x2, x3, x4⟩ := hX
  refine ⟨by rw [h.2.1 5 (by omega)]; exact x1, by rw [h.2.1 0 (by omega)]; exact x2, fun k hk => ?_, fun i j hi hj => ?_⟩
  · rw [h.1 48 k (by decide), h.1 49 k (by decide), h.1 50 k (by decide), h.1 51 k (by decide)]
    exact x3 k hk
  · rw [h.1 52 _ (by decide)]
    exact x4 i j hi hj
theorem PtM.sc {X X2 X3 : Mm} {a b : Int} (h : PtM X a b X2) (k : Sc X2 X3) : PtM X a b X3 := ⟨fun c j hc => (k.1 c j hc).trans (h.1 c j hc), fun j hj => (k.2 j (by omega)).trans (h.2.1 j hj), by rw [k.2 13 (by omega)]; exact h.2.2.1, by rw [k.2 14 (by omega)]; exact h.2.2.2.1, by rw [k.2 15 (by omega)]; exact h.2.2.2.2⟩
/-- the SPAN above in which a place is -/
def spanOf (v : Mv) (a b : Int) : Nat := va v (sidx v (va v) (val (vr v) a b))
def ptOk (v : Mv) (a b : Int) : Prop := pB a b ∧ pV v a b
set_option maxRecDepth 100000 in
set_option maxHeartbeats 4000000 in
theorem ct_X8_point {l : Launch} {g : Geo} {X : Mm} {K : AV → Mm → Prop} {v : Mv} {a b : Int} (ha : -2147483648 ≤ a ∧ a < 2147483648) (hb : -2147483648 ≤ b ∧ b < 2147483648) (hX : MvM X v) (hv : vn v ≠ 0 → Vd v) (h0 : (vn v = 0 ∨ ¬ ptOk v a b) → K (vI (-1)) X) (h1 : vn v ≠ 0 → ptOk v a b → ∀ X2, PtM X a b X2 → K (vI (spanOf v a b : Int)) X2) : Ct l g mX8_point [vR 44, vI a, vI b] X K := by
  refine enter (by decide) (Nat.le_of_ble_eq_true rfl) (fun κ => ?_)
  have x1 := hX.1
  have x2 := hX.2.1
  rcases Nat.eq_zero_or_pos (vn v) with hz | hz
  · have hz2 := hz
    refine g_aload_n rfl dX8_point_0 ?_
    refine gf_X8_94 rfl (by first | rfl | assumption) dX8_point_1 ?_
    refine g_if_eq (t := 39) dX8_point_4 (by decide) (by first | omega | (simp [st2]; done) | (simp [st2]; omega)) (fun b4 => ?_) (fun b4 => ?_)
    · refine g_iconst dX8_point_39 ?_
      refine g_ireturn rfl dX8_point_40 ?_
      exact h0 (Or.inl hz)
    · exfalso; omega
  · have hv := hv (by omega)
    have hr := hv.2.2.1
    have hn8 := hv.2.1
    unfold isRoot at hr
    have hpt : PtM X a b (st2 (st2 (st2 X 44 13 1) 44 14 a) 44 15 b) := ⟨fun c j hc => by simp [st2, hc], fun j hj => by
      have z1 : j ≠ 13 := by omega
      have z2 : j ≠ 14 := by omega
      have z3 : j ≠ 15 := by omega
      simp [st2, z1, z2, z3], rfl, rfl, rfl⟩
    refine g_aload_n rfl dX8_point_0 ?_
    refine gf_X8_94 rfl (by first | rfl | assumption) dX8_point_1 ?_
    refine g_if_eq (t := 39) dX8_point_4 (by decide) (by first | omega | (simp [st2]; done) | (simp [st2]; omega)) (fun b4 => ?_) (fun b4 => ?_)
    · exfalso; omega
    · refine g_iload_n rfl dX8_point_7 ?_
      refine g_i2l (by first | omega | (simp [st2]; done) | (simp [st2]; omega)) dX8_point_8 ?_
      refine g_iload_n rfl dX8_point_9 ?_
      refine g_i2l (by first | omega | (simp [st2]; done) | (simp [st2]; omega)) dX8_point_10 ?_
      refine g_cs2 (M2 := mX8_isPoint) dX8_point_11 ml_RX8_151 kX8_isPoint rfl (by decide) (by unfold Rm; decide) (Nat.le_of_ble_eq_true rfl) (ct_X8_isPoint (by omega) (by omega) ?_)
      refine g_if_eq (t := 39) dX8_point_14 (by decide) (by first | omega | (simp [st2]; done) | (simp [st2]; omega)) (fun b14 => ?_) (fun b14 => ?_)
      · refine g_iconst dX8_point_39 ?_
        refine g_ireturn rfl dX8_point_40 ?_
        refine h0 (Or.inr (fun q => ?_))
        first | exact hon q.2.2 | (have q1 := q.1; have q2 := q.2.1; unfold pB at q1; omega)
      · refine g_aload_n rfl dX8_point_17 ?_
        refine gf_X8_87 rfl (by first | rfl | assumption) dX8_point_18 ?_
        refine g_if_ne (t := 28) dX8_point_21 (by decide) (by first | omega | (simp [st2]; done) | (simp [st2]; omega)) (fun b21 => ?_) (fun b21 => ?_)
        · refine g_aload_n rfl dX8_point_28 ?_
          refine g_iload_n rfl dX8_point_29 ?_
          refine g_i2l (by first | omega | (simp [st2]; done) | (simp [st2]; omega)) dX8_point_30 ?_
          refine g_iload_n rfl dX8_point_31 ?_
          refine g_i2l (by first | omega | (simp [st2]; done) | (simp [st2]; omega)) dX8_point_32 ?_
          refine g_cv2 (M2 := mX8_isOnLine) (ci := 8) dX8_point_33 ml_RX8_154 kX8_isOnLine (by decide) (by first | rfl | assumption) (by decide) rfl (by unfold Rm; decide) (Nat.le_of_ble_eq_true rfl) (ct_X8_isOnLine hX hv (by unfold pB; omega) (by omega) (fun hon => ?_) (fun hon => ?_))
          · refine g_if_ne (t := 41) dX8_point_36 (by decide) (by first | omega | (simp [st2]; done) | (simp [st2]; omega)) (fun b36 => ?_) (fun b36 => ?_)
            · have hq : ptOk v a b := by first | exact ⟨by unfold pB; omega, by omega, hon⟩ | (exfalso; omega)
              refine g_aload_n rfl dX8_point_41 ?_
              refine g_iconst dX8_point_42 ?_
              refine pf_X8_97 (by omega) rfl (by first | rfl | assumption) dX8_point_43 ?_
              refine g_aload_n rfl dX8_point_46 ?_
              refine g_iload_n rfl dX8_point_47 ?_
              refine g_i2l (by first | omega | (simp [st2]; done) | (simp [st2]; omega)) dX8_point_48 ?_
              refine pf_X8_157 rfl (by first | rfl | assumption) dX8_point_49 ?_
              refine g_aload_n rfl dX8_point_52 ?_
              refine g_iload_n rfl dX8_point_53 ?_
              refine g_i2l (by first | omega | (simp [st2]; done) | (simp [st2]; omega)) dX8_point_54 ?_
              refine pf_X8_160 rfl (by first | rfl | assumption) dX8_point_55 ?_
              refine g_aload_n rfl dX8_point_58 ?_
              refine g_aload_n rfl dX8_point_59 ?_
              refine gf_X8_26 (c2 := 50) rfl rfl (by first | rfl | assumption) dX8_point_60 ?_
              refine g_iload_n rfl dX8_point_63 ?_
              refine g_i2l (by first | omega | (simp [st2]; done) | (simp [st2]; omega)) dX8_point_64 ?_
              refine g_iload_n rfl dX8_point_65 ?_
              refine g_i2l (by first | omega | (simp [st2]; done) | (simp [st2]; omega)) dX8_point_66 ?_
              refine g_cv3 (M2 := mX8_spanAt) (ci := 8) dX8_point_67 ml_RX8_135 kX8_spanAt (by decide) (by first | rfl | assumption) (by decide) rfl (by unfold Rm; decide) (Nat.le_of_ble_eq_true rfl) (ct_X8_spanAt (f := va v) (hX.pt hpt) hv hv.2.2.2.2.1 rfl rfl (by decide) (fun j hj => (hX.2.2.1 j hj).2.2.1) hq.1 hq.2.1 hq.2.2 ?_)
              refine g_ireturn rfl dX8_point_70 ?_
              exact h1 (by omega) hq _ (hpt.sc (Sc.lf _ _ _))
            · refine g_iconst dX8_point_39 ?_
              refine g_ireturn rfl dX8_point_40 ?_
              refine h0 (Or.inr (fun q => ?_))
              first | exact hon q.2.2 | (have q1 := q.1; have q2 := q.2.1; unfold pB at q1; omega)
          · refine g_if_ne (t := 41) dX8_point_36 (by decide) (by first | omega | (simp [st2]; done) | (simp [st2]; omega)) (fun b36 => ?_) (fun b36 => ?_)
            · have hq : ptOk v a b := by first | exact ⟨by unfold pB; omega, by omega, hon⟩ | (exfalso; omega)
              refine g_aload_n rfl dX8_point_41 ?_
              refine g_iconst dX8_point_42 ?_
              refine pf_X8_97 (by omega) rfl (by first | rfl | assumption) dX8_point_43 ?_
              refine g_aload_n rfl dX8_point_46 ?_
              refine g_iload_n rfl dX8_point_47 ?_
              refine g_i2l (by first | omega | (simp [st2]; done) | (simp [st2]; omega)) dX8_point_48 ?_
              refine pf_X8_157 rfl (by first | rfl | assumption) dX8_point_49 ?_
              refine g_aload_n rfl dX8_point_52 ?_
              refine g_iload_n rfl dX8_point_53 ?_
              refine g_i2l (by first | omega | (simp [st2]; done) | (simp [st2]; omega)) dX8_point_54 ?_
              refine pf_X8_160 rfl (by first | rfl | assumption) dX8_point_55 ?_
              refine g_aload_n rfl dX8_point_58 ?_
              refine g_aload_n rfl dX8_point_59 ?_
              refine gf_X8_26 (c2 := 50) rfl rfl (by first | rfl | assumption) dX8_point_60 ?_
              refine g_iload_n rfl dX8_point_63 ?_
              refine g_i2l (by first | omega | (simp [st2]; done) | (simp [st2]; omega)) dX8_point_64 ?_
              refine g_iload_n rfl dX8_point_65 ?_
              refine g_i2l (by first | omega | (simp [st2]; done) | (simp [st2]; omega)) dX8_point_66 ?_
              refine g_cv3 (M2 := mX8_spanAt) (ci := 8) dX8_point_67 ml_RX8_135 kX8_spanAt (by decide) (by first | rfl | assumption) (by decide) rfl (by unfold Rm; decide) (Nat.le_of_ble_eq_true rfl) (ct_X8_spanAt (f := va v) (hX.pt hpt) hv hv.2.2.2.2.1 rfl rfl (by decide) (fun j hj => (hX.2.2.1 j hj).2.2.1) hq.1 hq.2.1 hq.2.2 ?_)
              refine g_ireturn rfl dX8_point_70 ?_
              exact h1 (by omega) hq _ (hpt.sc (Sc.lf _ _ _))
            · refine g_iconst dX8_point_39 ?_
              refine g_ireturn rfl dX8_point_40 ?_
              refine h0 (Or.inr (fun q => ?_))
              first | exact hon q.2.2 | (have q1 := q.1; have q2 := q.2.1; unfold pB at q1; omega)
        · refine g_iload_n rfl dX8_point_24 ?_
          refine g_if_ne (t := 39) dX8_point_25 (by decide) (by first | omega | (simp [st2]; done) | (simp [st2]; omega)) (fun b25 => ?_) (fun b25 => ?_)
          · refine g_iconst dX8_point_39 ?_
            refine g_ireturn rfl dX8_point_40 ?_
            refine h0 (Or.inr (fun q => ?_))
            first | exact hon q.2.2 | (have q1 := q.1; have q2 := q.2.1; unfold pB at q1; omega)
          · refine g_aload_n rfl dX8_point_28 ?_
            refine g_iload_n rfl dX8_point_29 ?_
            refine g_i2l (by first | omega | (simp [st2]; done) | (simp [st2]; omega)) dX8_point_30 ?_
            refine g_iload_n rfl dX8_point_31 ?_
            refine g_i2l (by first | omega | (simp [st2]; done) | (simp [st2]; omega)) dX8_point_32 ?_
            refine g_cv2 (M2 := mX8_isOnLine) (ci := 8) dX8_point_33 ml_RX8_154 kX8_isOnLine (by decide) (by first | rfl | assumption) (by decide) rfl (by unfold Rm; decide) (Nat.le_of_ble_eq_true rfl) (ct_X8_isOnLine hX hv (by unfold pB; omega) (by omega) (fun hon => ?_) (fun hon => ?_))
            · refine g_if_ne (t := 41) dX8_point_36 (by decide) (by first | omega | (simp [st2]; done) | (simp [st2]; omega)) (fun b36 => ?_) (fun b36 => ?_)
              · have hq : ptOk v a b := by first | exact ⟨by unfold pB; omega, by omega, hon⟩ | (exfalso; omega)
                refine g_aload_n rfl dX8_point_41 ?_
                refine g_iconst dX8_point_42 ?_
                refine pf_X8_97 (by omega) rfl (by first | rfl | assumption) dX8_point_43 ?_
                refine g_aload_n rfl dX8_point_46 ?_
                refine g_iload_n rfl dX8_point_47 ?_
                refine g_i2l (by first | omega | (simp [st2]; done) | (simp [st2]; omega)) dX8_point_48 ?_
                refine pf_X8_157 rfl (by first | rfl | assumption) dX8_point_49 ?_
                refine g_aload_n rfl dX8_point_52 ?_
                refine g_iload_n rfl dX8_point_53 ?_
                refine g_i2l (by first | omega | (simp [st2]; done) | (simp [st2]; omega)) dX8_point_54 ?_
                refine pf_X8_160 rfl (by first | rfl | assumption) dX8_point_55 ?_
                refine g_aload_n rfl dX8_point_58 ?_
                refine g_aload_n rfl dX8_point_59 ?_
                refine gf_X8_26 (c2 := 50) rfl rfl (by first | rfl | assumption) dX8_point_60 ?_
                refine g_iload_n rfl dX8_point_63 ?_
                refine g_i2l (by first | omega | (simp [st2]; done) | (simp [st2]; omega)) dX8_point_64 ?_
                refine g_iload_n rfl dX8_point_65 ?_
                refine g_i2l (by first | omega | (simp [st2]; done) | (simp [st2]; omega)) dX8_point_66 ?_
                refine g_cv3 (M2 := mX8_spanAt) (ci := 8) dX8_point_67 ml_RX8_135 kX8_spanAt (by decide) (by first | rfl | assumption) (by decide) rfl (by unfold Rm; decide) (Nat.le_of_ble_eq_true rfl) (ct_X8_spanAt (f := va v) (hX.pt hpt) hv hv.2.2.2.2.1 rfl rfl (by decide) (fun j hj => (hX.2.2.1 j hj).2.2.1) hq.1 hq.2.1 hq.2.2 ?_)
                refine g_ireturn rfl dX8_point_70 ?_
                exact h1 (by omega) hq _ (hpt.sc (Sc.lf _ _ _))
              · refine g_iconst dX8_point_39 ?_
                refine g_ireturn rfl dX8_point_40 ?_
                refine h0 (Or.inr (fun q => ?_))
                first | exact hon q.2.2 | (have q1 := q.1; have q2 := q.2.1; unfold pB at q1; omega)
            · refine g_if_ne (t := 41) dX8_point_36 (by decide) (by first | omega | (simp [st2]; done) | (simp [st2]; omega)) (fun b36 => ?_) (fun b36 => ?_)
              · have hq : ptOk v a b := by first | exact ⟨by unfold pB; omega, by omega, hon⟩ | (exfalso; omega)
                refine g_aload_n rfl dX8_point_41 ?_
                refine g_iconst dX8_point_42 ?_
                refine pf_X8_97 (by omega) rfl (by first | rfl | assumption) dX8_point_43 ?_
                refine g_aload_n rfl dX8_point_46 ?_
                refine g_iload_n rfl dX8_point_47 ?_
                refine g_i2l (by first | omega | (simp [st2]; done) | (simp [st2]; omega)) dX8_point_48 ?_
                refine pf_X8_157 rfl (by first | rfl | assumption) dX8_point_49 ?_
                refine g_aload_n rfl dX8_point_52 ?_
                refine g_iload_n rfl dX8_point_53 ?_
                refine g_i2l (by first | omega | (simp [st2]; done) | (simp [st2]; omega)) dX8_point_54 ?_
                refine pf_X8_160 rfl (by first | rfl | assumption) dX8_point_55 ?_
                refine g_aload_n rfl dX8_point_58 ?_
                refine g_aload_n rfl dX8_point_59 ?_
                refine gf_X8_26 (c2 := 50) rfl rfl (by first | rfl | assumption) dX8_point_60 ?_
                refine g_iload_n rfl dX8_point_63 ?_
                refine g_i2l (by first | omega | (simp [st2]; done) | (simp [st2]; omega)) dX8_point_64 ?_
                refine g_iload_n rfl dX8_point_65 ?_
                refine g_i2l (by first | omega | (simp [st2]; done) | (simp [st2]; omega)) dX8_point_66 ?_
                refine g_cv3 (M2 := mX8_spanAt) (ci := 8) dX8_point_67 ml_RX8_135 kX8_spanAt (by decide) (by first | rfl | assumption) (by decide) rfl (by unfold Rm; decide) (Nat.le_of_ble_eq_true rfl) (ct_X8_spanAt (f := va v) (hX.pt hpt) hv hv.2.2.2.2.1 rfl rfl (by decide) (fun j hj => (hX.2.2.1 j hj).2.2.1) hq.1 hq.2.1 hq.2.2 ?_)
                refine g_ireturn rfl dX8_point_70 ?_
                exact h1 (by omega) hq _ (hpt.sc (Sc.lf _ _ _))
              · refine g_iconst dX8_point_39 ?_
                refine g_ireturn rfl dX8_point_40 ?_
                refine h0 (Or.inr (fun q => ?_))
                first | exact hon q.2.2 | (have q1 := q.1; have q2 := q.2.1; unfold pB at q1; omega)
/-- so many MOVES; none: beyond the bounds -/
def mvN (v : Mv) (f h : Nat → Nat) : Nat → Int → Int → Option (Int × Int)
  | 0, a, b => some (a, b)
  | k + 1, a, b => if (-536870912 ≤ gA v f h a b ∧ gA v f h a b ≤ 536870912) ∧ (-536870912 ≤ gB v f h a b ∧ gB v f h a b ≤ 536870912) then mvN v f h k (gA v f h a b) (gB v f h a b) else none
theorem mvN_pV {v : Mv} (hv : Vd v) {f h : Nat → Nat} (hf : Perm f (vn v)) (hh : Perm h (vn v)) : ∀ (k : Nat) (a b a2 b2 : Int), ptOk v a b → mvN v f h k a b = some (a2, b2) → ptOk v a2 b2
  | 0, a, b, a2, b2, hp, e => by
    simp only [mvN, Option.some.injEq, Prod.mk.injEq] at e
    rw [← e.1, ← e.2]
    exact hp
  | k + 1, a, b, a2, b2, hp, e => by
    rw [mvN] at e
    split at e
    · next hq => exact mvN_pV hv hf hh k _ _ _ _ ⟨hq, (go_pV hv hf hh hp.2).1⟩ e
    · cases e
set_option maxRecDepth 100000 in
set_option maxHeartbeats 4000000 in
theorem ct_X8_move {l : Launch} {g : Geo} {X : Mm} {K : AV → Mm → Prop} {v : Mv} {m a b : Int} {f h : Nat → Nat} (hm : -2147483648 ≤ m ∧ m < 2147483648) (ht : X 44 13 = 0 ∨ X 44 13 = 1) (hfh : (0 ≤ m ∧ f = va v ∧ h = vu v) ∨ (m < 0 ∧ f = vu v ∧ h = va v)) (hX : X 44 13 = 1 → MvM X v ∧ Vd v ∧ X 44 14 = a ∧ X 44 15 = b ∧ ptOk v a b) (h0 : (X 44 13 = 0 ∨ m < -1000 ∨ 1000 < m) → K (vI (-1)) X) (h1 : X 44 13 = 1 → (-1000 ≤ m ∧ m ≤ 1000) → mvN v f h m.natAbs a b = none → ∀ X2, Sc X X2 → K (vI (-1)) X2) (h2 : X 44 13 = 1 → (-1000 ≤ m ∧ m ≤ 1000) → ∀ a2 b2, mvN v f h m.natAbs a b = some (a2, b2) → ∀ X2, PtM X a2 b2 X2 → K (vI (spanOf v a2 b2 : Int)) X2) : Ct l g mX8_move [vR 44, vI m] X K := by
  refine enter (by decide) (Nat.le_of_ble_eq_true rfl) (fun κ => ?_)
  rcases ht with ht | ht
  · have ht2 := ht
    refine g_aload_n rfl dX8_move_0 ?_
    refine gf_X8_97 rfl (by first | rfl | assumption) dX8_move_1 ?_
    refine g_if_eq (t := 21) dX8_move_4 (by decide) (by first | omega | (simp [st2]; done) | (simp [st2]; omega)) (fun b4 => ?_) (fun b4 => ?_)
    · refine g_iconst dX8_move_21 ?_
      refine g_ireturn rfl dX8_move_22 ?_
      exact h0 (Or.inl ht)
    · exfalso; omega
  · obtain ⟨hX, hv, ea, eb, hp⟩ := hX ht
    have hf : Perm f (vn v) := by
      rcases hfh with ⟨_, e, _⟩ | ⟨_, e, _⟩
      · rw [e]; exact hv.2.2.2.2.1
      · rw [e]; exact hv.2.2.2.2.2.1
    have hh : Perm h (vn v) := by
      rcases hfh with ⟨_, _, e⟩ | ⟨_, _, e⟩
      · rw [e]; exact hv.2.2.2.2.2.1
      · rw [e]; exact hv.2.2.2.2.1
    have loop : (-1000 ≤ m ∧ m ≤ 1000) → ∀ k : Nat, k ≤ m.natAbs → ∀ (x y : Int) (X2 : Mm), mvN v f h m.natAbs a b = mvN v f h (m.natAbs - k) x y → ptOk v x y → Sc X X2 → G l g mX8_move κ K 37 [(0, vR 44), (1, vI m), (2, vJ x), (4, vJ y), (6, vI (k : Int))] [] X2 := by
      intro hm1
      refine upTo m.natAbs ?_
      intro k hkm ih x y X2 hs hxy hsc
      have hgo : ∀ t : Int, ((t = 0 ∧ 0 ≤ m) ∨ (t = 1 ∧ m < 0)) → (t = 0 ∧ f = va v ∧ h = vu v) ∨ (t = 1 ∧ f = vu v ∧ h = va v) := by
        intro t q
        rcases hfh with ⟨q1, e1, e2⟩ | ⟨q1, e1, e2⟩
        · exact Or.inl ⟨by omega, e1, e2⟩
        · exact Or.inr ⟨by omega, e1, e2⟩
      have hpv := go_pV hv hf hh hxy.2
      have hpb := hxy.1
      unfold pB at hpb
      refine g_iload rfl dX8_move_37 ?_
      refine g_iload_n rfl dX8_move_39 ?_
      refine g_icmp_lt (t := 50) dX8_move_40 (by decide) (by first | omega | (simp [st2]; done) | (simp [st2]; omega)) (by first | omega | (simp [st2]; done) | (simp [st2]; omega)) (fun b40 => ?_) (fun b40 => ?_)
      · refine g_aload_n rfl dX8_move_50 ?_
        refine g_lload_n rfl dX8_move_51 ?_
        refine g_lload rfl dX8_move_52 ?_
        refine g_iload_n rfl dX8_move_54 ?_
        refine g_if_ge (t := 62) dX8_move_55 (by decide) (by first | omega | (simp [st2]; done) | (simp [st2]; omega)) (fun b55 => ?_) (fun b55 => ?_)
        · refine g_iconst dX8_move_62 ?_
          refine g_cv3v (M2 := mX8_goes) (ci := 8) dX8_move_63 ml_RX8_163 kX8_goes rfl (by first | rfl | assumption) (by decide) rfl (by unfold Rm; decide) (Nat.le_of_ble_eq_true rfl) (ct_X8_goes (f := f) (h := h) (hgo _ (by omega)) (hX.sc hsc) hv hxy.1 hxy.2 (fun X3 hsc3 g18 g19 => ?_))
          refine g_aload_n rfl dX8_move_66 ?_
          refine gf_X8_139 rfl (by first | rfl | assumption) dX8_move_67 ?_
          rw [g18]
          refine g_lstore_n (by decide) dX8_move_70 ?_
          refine g_aload_n rfl dX8_move_71 ?_
          refine gf_X8_142 rfl (by first | rfl | assumption) dX8_move_72 ?_
          rw [g19]
          refine g_lstore (by decide) dX8_move_75 ?_
          refine g_lload_n rfl dX8_move_77 ?_
          refine g_lload rfl dX8_move_78 ?_
          refine g_cs2 (M2 := mX8_isPoint) dX8_move_80 ml_RX8_151 kX8_isPoint rfl (by decide) (by unfold Rm; decide) (Nat.le_of_ble_eq_true rfl) (ct_X8_isPoint (by omega) (by omega) ?_)
          obtain ⟨d, hd⟩ : ∃ d, m.natAbs - k = d + 1 := ⟨m.natAbs - k - 1, by omega⟩
          rw [hd, mvN] at hs
          refine g_if_ne (t := 88) dX8_move_83 (by decide) (by first | omega | (simp [st2]; done) | (simp [st2]; omega)) (fun b83 => ?_) (fun b83 => ?_)
          · refine g_iinc rfl (by decide) dX8_move_88 ?_
            refine g_goto (t := 37) dX8_move_91 (by decide) ?_
            rw [if_pos (by omega)] at hs
            refine g_subl [(0, vR 44), (1, vI m), (2, vJ (gA v f h x y)), (4, vJ (gB v f h x y)), (6, vI ((k + 1 : Nat) : Int))] rfl ?_
            exact ih (k + 1) (by omega) (by omega) _ _ _ (by rw [hs, show m.natAbs - (k + 1) = d by omega]) ⟨by unfold pB; omega, hpv.1⟩ (hsc.tr hsc3)
          · refine g_iconst dX8_move_86 ?_
            refine g_ireturn rfl dX8_move_87 ?_
            rw [if_neg (by omega)] at hs
            exact h1 ht hm1 hs _ (hsc.tr hsc3)
        · refine g_iconst dX8_move_58 ?_
          refine g_goto (t := 63) dX8_move_59 (by decide) ?_
          refine g_cv3v (M2 := mX8_goes) (ci := 8) dX8_move_63 ml_RX8_163 kX8_goes rfl (by first | rfl | assumption) (by decide) rfl (by unfold Rm; decide) (Nat.le_of_ble_eq_true rfl) (ct_X8_goes (f := f) (h := h) (hgo _ (by omega)) (hX.sc hsc) hv hxy.1 hxy.2 (fun X3 hsc3 g18 g19 => ?_))
          refine g_aload_n rfl dX8_move_66 ?_
          refine gf_X8_139 rfl (by first | rfl | assumption) dX8_move_67 ?_
          rw [g18]
          refine g_lstore_n (by decide) dX8_move_70 ?_
          refine g_aload_n rfl dX8_move_71 ?_
          refine gf_X8_142 rfl (by first | rfl | assumption) dX8_move_72 ?_
          rw [g19]
          refine g_lstore (by decide) dX8_move_75 ?_
          refine g_lload_n rfl dX8_move_77 ?_
          refine g_lload rfl dX8_move_78 ?_
          refine g_cs2 (M2 := mX8_isPoint) dX8_move_80 ml_RX8_151 kX8_isPoint rfl (by decide) (by unfold Rm; decide) (Nat.le_of_ble_eq_true rfl) (ct_X8_isPoint (by omega) (by omega) ?_)
          obtain ⟨d, hd⟩ : ∃ d, m.natAbs - k = d + 1 := ⟨m.natAbs - k - 1, by omega⟩
          rw [hd, mvN] at hs
          refine g_if_ne (t := 88) dX8_move_83 (by decide) (by first | omega | (simp [st2]; done) | (simp [st2]; omega)) (fun b83 => ?_) (fun b83 => ?_)
          · refine g_iinc rfl (by decide) dX8_move_88 ?_
            refine g_goto (t := 37) dX8_move_91 (by decide) ?_
            rw [if_pos (by omega)] at hs
            refine g_subl [(0, vR 44), (1, vI m), (2, vJ (gA v f h x y)), (4, vJ (gB v f h x y)), (6, vI ((k + 1 : Nat) : Int))] rfl ?_
            exact ih (k + 1) (by omega) (by omega) _ _ _ (by rw [hs, show m.natAbs - (k + 1) = d by omega]) ⟨by unfold pB; omega, hpv.1⟩ (hsc.tr hsc3)
          · refine g_iconst dX8_move_86 ?_
            refine g_ireturn rfl dX8_move_87 ?_
            rw [if_neg (by omega)] at hs
            exact h1 ht hm1 hs _ (hsc.tr hsc3)
      · refine g_iload rfl dX8_move_43 ?_
        refine g_iload_n rfl dX8_move_45 ?_
        refine g_ineg dX8_move_46 ?_
        refine g_icmp_ge (t := 94) dX8_move_47 (by decide) (by first | omega | (simp [st2]; done) | (simp [st2]; omega)) (by first | omega | (simp [st2]; done) | (simp [st2]; omega)) (fun b47 => ?_) (fun b47 => ?_)
        · rw [show m.natAbs - k = 0 by omega, mvN] at hs
          have hpt : PtM X x y (st2 (st2 X2 44 14 x) 44 15 y) := ⟨fun c j hc => by simp [st2, hc]; exact hsc.1 c j hc, fun j hj => by
            have z2 : j ≠ 14 := by omega
            have z3 : j ≠ 15 := by omega
            simp [st2, z2, z3]
            exact hsc.2 j (by omega), by
            simp [st2]
            rw [hsc.2 13 (by omega)]
            exact ht, rfl, rfl⟩
          have hX3 := hX.pt hpt
          refine g_aload_n rfl dX8_move_94 ?_
          refine g_lload_n rfl dX8_move_95 ?_
          refine pf_X8_157 rfl (by first | rfl | assumption) dX8_move_96 ?_
          refine g_aload_n rfl dX8_move_99 ?_
          refine g_lload rfl dX8_move_100 ?_
          refine pf_X8_160 rfl (by first | rfl | assumption) dX8_move_102 ?_
          refine g_aload_n rfl dX8_move_105 ?_
          refine g_aload_n rfl dX8_move_106 ?_
          refine gf_X8_26 (c2 := 50) rfl rfl (by first | rfl | assumption) dX8_move_107 ?_
          refine g_lload_n rfl dX8_move_110 ?_
          refine g_lload rfl dX8_move_111 ?_
          refine g_cv3 (M2 := mX8_spanAt) (ci := 8) dX8_move_113 ml_RX8_135 kX8_spanAt (by decide) (by first | rfl | assumption) (by decide) rfl (by unfold Rm; decide) (Nat.le_of_ble_eq_true rfl) (ct_X8_spanAt (f := va v) hX3 hv hv.2.2.2.2.1 rfl rfl (by decide) (fun j hj => (hX3.2.2.1 j hj).2.2.1) hxy.1 hxy.2.1 hxy.2.2 ?_)
          refine g_ireturn rfl dX8_move_116 ?_
          exact h2 ht hm1 x y hs _ (hpt.sc (Sc.lf _ _ _))
        · refine g_aload_n rfl dX8_move_50 ?_
          refine g_lload_n rfl dX8_move_51 ?_
          refine g_lload rfl dX8_move_52 ?_
          refine g_iload_n rfl dX8_move_54 ?_
          refine g_if_ge (t := 62) dX8_move_55 (by decide) (by first | omega | (simp [st2]; done) | (simp [st2]; omega)) (fun b55 => ?_) (fun b55 => ?_)
          · refine g_iconst dX8_move_62 ?_
            refine g_cv3v (M2 := mX8_goes) (ci := 8) dX8_move_63 ml_RX8_163 kX8_goes rfl (by first | rfl | assumption) (by decide) rfl (by unfold Rm; decide) (Nat.le_of_ble_eq_true rfl) (ct_X8_goes (f := f) (h := h) (hgo _ (by omega)) (hX.sc hsc) hv hxy.1 hxy.2 (fun X3 hsc3 g18 g19 => ?_))
            refine g_aload_n rfl dX8_move_66 ?_
            refine gf_X8_139 rfl (by first | rfl | assumption) dX8_move_67 ?_
            rw [g18]
            refine g_lstore_n (by decide) dX8_move_70 ?_
            refine g_aload_n rfl dX8_move_71 ?_
            refine gf_X8_142 rfl (by first | rfl | assumption) dX8_move_72 ?_
            rw [g19]
            refine g_lstore (by decide) dX8_move_75 ?_
            refine g_lload_n rfl dX8_move_77 ?_
            refine g_lload rfl dX8_move_78 ?_
            refine g_cs2 (M2 := mX8_isPoint) dX8_move_80 ml_RX8_151 kX8_isPoint rfl (by decide) (by unfold Rm; decide) (Nat.le_of_ble_eq_true rfl) (ct_X8_isPoint (by omega) (by omega) ?_)
            obtain ⟨d, hd⟩ : ∃ d, m.natAbs - k = d + 1 := ⟨m.natAbs - k - 1, by omega⟩
            rw [hd, mvN] at hs
            refine g_if_ne (t := 88) dX8_move_83 (by decide) (by first | omega | (simp [st2]; done) | (simp [st2]; omega)) (fun b83 => ?_) (fun b83 => ?_)
            · refine g_iinc rfl (by decide) dX8_move_88 ?_
              refine g_goto (t := 37) dX8_move_91 (by decide) ?_
              rw [if_pos (by omega)] at hs
              refine g_subl [(0, vR 44), (1, vI m), (2, vJ (gA v f h x y)), (4, vJ (gB v f h x y)), (6, vI ((k + 1 : Nat) : Int))] rfl ?_
              exact ih (k + 1) (by omega) (by omega) _ _ _ (by rw [hs, show m.natAbs - (k + 1) = d by omega]) ⟨by unfold pB; omega, hpv.1⟩ (hsc.tr hsc3)
            · refine g_iconst dX8_move_86 ?_
              refine g_ireturn rfl dX8_move_87 ?_
              rw [if_neg (by omega)] at hs
              exact h1 ht hm1 hs _ (hsc.tr hsc3)
          · refine g_iconst dX8_move_58 ?_
            refine g_goto (t := 63) dX8_move_59 (by decide) ?_
            refine g_cv3v (M2 := mX8_goes) (ci := 8) dX8_move_63 ml_RX8_163 kX8_goes rfl (by first | rfl | assumption) (by decide) rfl (by unfold Rm; decide) (Nat.le_of_ble_eq_true rfl) (ct_X8_goes (f := f) (h := h) (hgo _ (by omega)) (hX.sc hsc) hv hxy.1 hxy.2 (fun X3 hsc3 g18 g19 => ?_))
            refine g_aload_n rfl dX8_move_66 ?_
            refine gf_X8_139 rfl (by first | rfl | assumption) dX8_move_67 ?_
            rw [g18]
            refine g_lstore_n (by decide) dX8_move_70 ?_
            refine g_aload_n rfl dX8_move_71 ?_
            refine gf_X8_142 rfl (by first | rfl | assumption) dX8_move_72 ?_
            rw [g19]
            refine g_lstore (by decide) dX8_move_75 ?_
            refine g_lload_n rfl dX8_move_77 ?_
            refine g_lload rfl dX8_move_78 ?_
            refine g_cs2 (M2 := mX8_isPoint) dX8_move_80 ml_RX8_151 kX8_isPoint rfl (by decide) (by unfold Rm; decide) (Nat.le_of_ble_eq_true rfl) (ct_X8_isPoint (by omega) (by omega) ?_)
            obtain ⟨d, hd⟩ : ∃ d, m.natAbs - k = d + 1 := ⟨m.natAbs - k - 1, by omega⟩
            rw [hd, mvN] at hs
            refine g_if_ne (t := 88) dX8_move_83 (by decide) (by first | omega | (simp [st2]; done) | (simp [st2]; omega)) (fun b83 => ?_) (fun b83 => ?_)
            · refine g_iinc rfl (by decide) dX8_move_88 ?_
              refine g_goto (t := 37) dX8_move_91 (by decide) ?_
              rw [if_pos (by omega)] at hs
              refine g_subl [(0, vR 44), (1, vI m), (2, vJ (gA v f h x y)), (4, vJ (gB v f h x y)), (6, vI ((k + 1 : Nat) : Int))] rfl ?_
              exact ih (k + 1) (by omega) (by omega) _ _ _ (by rw [hs, show m.natAbs - (k + 1) = d by omega]) ⟨by unfold pB; omega, hpv.1⟩ (hsc.tr hsc3)
            · refine g_iconst dX8_move_86 ?_
              refine g_ireturn rfl dX8_move_87 ?_
              rw [if_neg (by omega)] at hs
              exact h1 ht hm1 hs _ (hsc.tr hsc3)
    refine g_aload_n rfl dX8_move_0 ?_
    refine gf_X8_97 rfl (by first | rfl | assumption) dX8_move_1 ?_
    refine g_if_eq (t := 21) dX8_move_4 (by decide) (by first | omega | (simp [st2]; done) | (simp [st2]; omega)) (fun b4 => ?_) (fun b4 => ?_)
    · exfalso; omega
    · refine g_iload_n rfl dX8_move_7 ?_
      refine g_sipush (by decide) dX8_move_8 ?_
      refine g_icmp_lt (t := 21) dX8_move_11 (by decide) (by first | omega | (simp [st2]; done) | (simp [st2]; omega)) (by first | omega | (simp [st2]; done) | (simp [st2]; omega)) (fun b11 => ?_) (fun b11 => ?_)
      · refine g_iconst dX8_move_21 ?_
        refine g_ireturn rfl dX8_move_22 ?_
        exact h0 (by omega)
      · refine g_iload_n rfl dX8_move_14 ?_
        refine g_sipush (by decide) dX8_move_15 ?_
        refine g_icmp_le (t := 23) dX8_move_18 (by decide) (by first | omega | (simp [st2]; done) | (simp [st2]; omega)) (by first | omega | (simp [st2]; done) | (simp [st2]; omega)) (fun b18 => ?_) (fun b18 => ?_)
        · refine g_aload_n rfl dX8_move_23 ?_
          refine gf_X8_157 rfl (by first | rfl | assumption) dX8_move_24 ?_
          refine g_lstore_n (by decide) dX8_move_27 ?_
          refine g_aload_n rfl dX8_move_28 ?_
          refine gf_X8_160 rfl (by first | rfl | assumption) dX8_move_29 ?_
          refine g_lstore (by decide) dX8_move_32 ?_
          refine g_iconst dX8_move_34 ?_
          refine g_istore (by decide) dX8_move_35 ?_
          refine g_subl [(0, vR 44), (1, vI m), (2, vJ a), (4, vJ b), (6, vI ((0 : Nat) : Int))] (by rw [ea, eb]; rfl) ?_
          exact loop (by omega) 0 (by omega) a b X rfl hp (Sc.rf X)
        · refine g_iconst dX8_move_21 ?_
          refine g_ireturn rfl dX8_move_22 ?_
          exact h0 (by omega)
