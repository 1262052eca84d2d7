/-! A STEP, as numbers -/
def brg (f : Nat → Nat) (p last : Nat) : Nat → Nat := fun j => if j ≤ p then f j else if j = p + 1 then last else f (j - 1)
def brs (p n j : Nat) : Nat := if j ≤ p then j else if j = p + 1 then n - 1 else j - 1
theorem brg_s (f : Nat → Nat) (p n j : Nat) : brg f p (f (n - 1)) j = f (brs p n j) := by
  unfold brg brs
  split
  · rfl
  · split <;> rfl
theorem brg_perm {f : Nat → Nat} {n p : Nat} (h : Perm f n) (hp : p + 1 < n) : Perm (brg f p (f (n - 1))) n := by
  refine ⟨fun j hj => ?_, fun i j hi hj e => ?_⟩
  · rw [brg_s]
    apply h.1
    unfold brs
    repeat' split
    all_goals omega
  · rw [brg_s, brg_s] at e
    have e2 := h.2 _ _ (by unfold brs; repeat' split
                           all_goals omega) (by unfold brs; repeat' split
                                                all_goals omega) e
    unfold brs at e2
    repeat' split at e2
    all_goals omega
def lu (v : Mv) : Nat := va v (vn v - 1)
def ld (v : Mv) : Nat := vu v (vn v - 1)
def stp (v : Mv) (w x : Nat) (f h : Nat → Nat) : Mv := (vn v, vr v, fun k => if k = w then vA v w - vA v x else vA v k, fun k => if k = w then vB v w - vB v x else vB v k, f, h, fun i j => if j = x then vT v i x + vT v i w else vT v i j)
def stU (v : Mv) : Mv := stp v (lu v) (ld v) (va v) (brg (vu v) (posI (vu v) (lu v) (vn v)) (ld v))
def stD (v : Mv) : Mv := stp v (ld v) (lu v) (brg (va v) (posI (va v) (ld v) (vn v)) (lu v)) (vu v)
def spent (v : Mv) (w x : Nat) : Prop := ¬ ((-16384 ≤ vA v w - vA v x ∧ vA v w - vA v x ≤ 16384) ∧ (-16384 ≤ vB v w - vB v x ∧ vB v w - vB v x ≤ 16384)) ∨ ∃ i, i < vn v ∧ 1099511627776 < vT v i x + vT v i w
noncomputable def stR (v : Mv) : Int := by
  classical
  exact if lu v = ld v then -2 else if vL v (lu v) = vL v (ld v) then -3 else if vL v (ld v) < vL v (lu v) then (if spent v (lu v) (ld v) then -4 else 1) else (if spent v (ld v) (lu v) then -4 else 0)
noncomputable def stN (v : Mv) : Mv := by
  classical
  exact if vL v (ld v) < vL v (lu v) then stU v else stD v
theorem stR_2 {v : Mv} (h : lu v = ld v) : stR v = -2 := by
  unfold stR
  rw [if_pos h]
theorem stR_3 {v : Mv} (h : lu v ≠ ld v) (h2 : vL v (lu v) = vL v (ld v)) : stR v = -3 := by
  unfold stR
  rw [if_neg h, if_pos h2]
theorem stR_u4 {v : Mv} (h : lu v ≠ ld v) (h2 : vL v (ld v) < vL v (lu v)) (h3 : spent v (lu v) (ld v)) : stR v = -4 := by
  unfold stR
  rw [if_neg h, if_neg (by omega), if_pos h2, if_pos h3]
theorem stR_u1 {v : Mv} (h : lu v ≠ ld v) (h2 : vL v (ld v) < vL v (lu v)) (h3 : ¬ spent v (lu v) (ld v)) : stR v = 1 ∧ stN v = stU v := by
  unfold stR stN
  rw [if_neg h, if_neg (by omega), if_pos h2, if_neg h3, if_pos h2]
  exact ⟨rfl, rfl⟩
theorem stR_d4 {v : Mv} (h : lu v ≠ ld v) (h2 : vL v (lu v) < vL v (ld v)) (h3 : spent v (ld v) (lu v)) : stR v = -4 := by
  unfold stR
  rw [if_neg h, if_neg (by omega), if_neg (by omega), if_pos h3]
theorem stR_d0 {v : Mv} (h : lu v ≠ ld v) (h2 : vL v (lu v) < vL v (ld v)) (h3 : ¬ spent v (ld v) (lu v)) : stR v = 0 ∧ stN v = stD v := by
  unfold stR stN
  rw [if_neg h, if_neg (by omega), if_neg (by omega), if_neg h3, if_neg (by omega)]
  exact ⟨rfl, rfl⟩
theorem stp_L (v : Mv) (w x : Nat) (f h : Nat → Nat) : vL (stp v w x f h) = fun k => if k = w then vL v w - vL v x else vL v k := by
  funext k
  show val (vr v) (if k = w then vA v w - vA v x else vA v k) (if k = w then vB v w - vB v x else vB v k) = _
  split
  · rw [val_sub]; rfl
  · rfl
theorem stp_Vd {v : Mv} (hv : Vd v) {w x : Nat} {f h : Nat → Nat} (hw : w < vn v) (hx : x < vn v) (hl : vL v x < vL v w) (hs : ¬ spent v w x) (hf : Perm f (vn v)) (hh : Perm h (vn v)) : Vd (stp v w x f h) := by
  have hs1 : (-16384 ≤ vA v w - vA v x ∧ vA v w - vA v x ≤ 16384) ∧ (-16384 ≤ vB v w - vB v x ∧ vB v w - vB v x ≤ 16384) := Classical.not_not.mp (fun q => hs (Or.inl q))
  have hs2 : ∀ i, i < vn v → vT v i x + vT v i w ≤ 1099511627776 := fun i hi => Int.not_lt.mp (fun q => hs (Or.inr ⟨i, hi, q⟩))
  refine ⟨hv.1, hv.2.1, hv.2.2.1, fun k hk => ?_, hf, hh, fun i j hi hj => ?_⟩
  · have hk : k < vn v := hk
    have q1 := hv.2.2.2.1 k hk
    have q2 := hv.2.2.2.1 w hw
    have q3 := hv.2.2.2.1 x hx
    refine ⟨?_, ?_, fun e => ?_, ?_⟩
    · show -16384 ≤ (if k = w then vA v w - vA v x else vA v k) ∧ (if k = w then vA v w - vA v x else vA v k) ≤ 16384
      split <;> omega
    · show -16384 ≤ (if k = w then vB v w - vB v x else vB v k) ∧ (if k = w then vB v w - vB v x else vB v k) ≤ 16384
      split <;> omega
    · show (if k = w then vB v w - vB v x else vB v k) = 0
      have e1 := q1.2.2.1 e
      have e2 := q2.2.2.1 e
      have e3 := q3.2.2.1 e
      split <;> omega
    · rw [stp_L]
      dsimp only
      split <;> omega
  · have hi : i < vn v := hi
    have hj : j < vn v := hj
    show 0 ≤ (if j = x then vT v i x + vT v i w else vT v i j) ∧ (if j = x then vT v i x + vT v i w else vT v i j) ≤ 1099511627776
    have q1 := hv.2.2.2.2.2.2 i j hi hj
    have q2 := hv.2.2.2.2.2.2 i w hi hw
    have q3 := hv.2.2.2.2.2.2 i x hi hx
    have q4 := hs2 i hi
    split <;> omega
theorem stp_tot {v : Mv} {w x : Nat} {f h : Nat → Nat} (hw : w < vn v) : tot (stp v w x f h) = tot v - vL v x := by
  unfold tot
  rw [stp_L]
  show ps (fun k => if k = w then vL v w - vL v x else vL v k) id (vn v) = _
  rw [ps_si, ps_si]
  have e : (fun j => (fun k => if k = w then vL v w - vL v x else vL v k) (id j)) = fun k => if k = w then vL v w - vL v x else (fun j => vL v (id j)) k := by
    funext j
    rfl
  rw [e, fb_si_upd _ _ hw]
  show _ - vL v w + _ = _
  omega
theorem last_ne {f : Nat → Nat} {n k : Nat} (h : Perm f n) (hk : k < n) (hne : f (n - 1) ≠ k) : posI f k n + 1 < n := by
  obtain ⟨p1, p2⟩ := posI_spec h hk
  rcases Nat.lt_or_ge (posI f k n + 1) n with q | q
  · exact q
  · exact absurd (by rw [show n - 1 = posI f k n by omega]; exact p2) hne
theorem lu_lt {v : Mv} (hv : Vd v) : lu v < vn v ∧ ld v < vn v := ⟨hv.2.2.2.2.1.1 _ (by have := hv.1; omega), hv.2.2.2.2.2.1.1 _ (by have := hv.1; omega)⟩
theorem stN_ok {v : Mv} (hv : Vd v) (h0 : 0 ≤ stR v) : Vd (stN v) ∧ vn (stN v) = vn v ∧ vr (stN v) = vr v ∧ tot (stN v) < tot v := by
  have hl := lu_lt hv
  have hp1 := hv.2.2.2.2.1
  have hp2 := hv.2.2.2.2.2.1
  by_cases c1 : lu v = ld v
  · rw [stR_2 c1] at h0; omega
  · rcases Int.lt_trichotomy (vL v (ld v)) (vL v (lu v)) with q | q | q
    · by_cases c2 : spent v (lu v) (ld v)
      · rw [stR_u4 c1 q c2] at h0; omega
      · rw [(stR_u1 c1 q c2).2]
        refine ⟨stp_Vd hv hl.1 hl.2 q c2 hp1 (brg_perm hp2 (last_ne hp2 hl.1 (fun e => c1 e.symm))), rfl, rfl, ?_⟩
        unfold stU
        rw [stp_tot hl.1]
        have := (hv.2.2.2.1 _ hl.2).2.2.2
        omega
    · rw [stR_3 c1 q.symm] at h0; omega
    · by_cases c2 : spent v (ld v) (lu v)
      · rw [stR_d4 c1 q c2] at h0; omega
      · rw [(stR_d0 c1 q c2).2]
        refine ⟨stp_Vd hv hl.2 hl.1 q c2 (brg_perm hp1 (last_ne hp1 hl.2 (fun e => c1 e))) hp2, rfl, rfl, ?_⟩
        unfold stD
        rw [stp_tot hl.2]
        have := (hv.2.2.2.1 _ hl.1).2.2.2
        omega
/-! the reference's row of a line, brought into another order -/
def Rw (X : Mm) (o n : Nat) (f : Nat → Nat) : Prop := ∀ j, j < n → X o j = (f j : Int)
set_option maxRecDepth 100000 in
set_option maxHeartbeats 4000000 in
theorem ct_X8_brings {l : Launch} {g : Geo} {X : Mm} {K : AV → Mm → Prop} {n o k w : Nat} {f : Nat → Nat} (hn : X 44 5 = (n : Int)) (hn8 : 2 ≤ n ∧ n ≤ 8) (hf : Perm f n) (ho9 : kd o = 9) (ho8 : ln o = 8) (ho44 : o ≠ 44) (ho : Rw X o n f) (hw : w < n) (hp : posI f w n + 1 < n) (hk : ∀ X2, (∀ d j, d ≠ o → X2 d j = X d j) → Rw X2 o n (brg f (posI f w n) k) → K (vI 0) X2) : Ct l g mX8_brings [vR 44, vR o, vI (k : Int), vI (w : Int)] X K := by
  refine enter (by decide) (Nat.le_of_ble_eq_true rfl) (fun κ => ?_)
  obtain ⟨p, ep⟩ : ∃ p, p = posI f w n := ⟨_, rfl⟩
  have hps := posI_spec hf hw
  rw [← ep] at hp hk hps
  have loop2 : ∀ e : Nat, e ≤ n - 2 - p → ∀ X2 : Mm, (∀ d j, d ≠ o → X2 d j = X d j) → (∀ q, q < n → X2 o q = ((if n - 1 - e < q then f (q - 1) else f q : Nat) : Int)) → G l g mX8_brings κ K 25 [(0, vR 44), (1, vR o), (2, vI (k : Int)), (4, vI (p : Int)), (5, vI ((n - 1 - e : Nat) : Int))] [] X2 := by
    refine upTo (n - 2 - p) ?_
    intro e he ih X2 hfr hrow
    refine g_iload rfl dX8_brings_25 ?_
    refine g_iload rfl dX8_brings_27 ?_
    refine g_iconst dX8_brings_29 ?_
    refine g_iadd dX8_brings_30 ?_
    refine g_icmp_le (t := 50) dX8_brings_31 (by decide) (by first | omega | (simp [st2]; done) | (simp [st2]; omega)) (by first | omega | (simp [st2]; done) | (simp [st2]; omega)) (fun b31 => ?_) (fun b31 => ?_)
    · refine g_aload_n rfl dX8_brings_50 ?_
      refine g_iload rfl dX8_brings_51 ?_
      refine g_iconst dX8_brings_53 ?_
      refine g_iadd dX8_brings_54 ?_
      refine g_iload_n rfl dX8_brings_55 ?_
      refine g_iast (n := 8) (p + 1) (by first | rfl | assumption) (by first | rfl | assumption) (by omega) (by first | omega | (simp [st2]; done) | (simp [st2]; omega)) (by first | omega | (simp [st2]; done) | (simp [st2]; omega)) dX8_brings_56 ?_
      refine g_return rfl dX8_brings_57 ?_
      refine hk _ (fun d j hd => by simp only [st2, if_neg hd]; exact hfr d j hd) (fun q hq => ?_)
      unfold brg
      by_cases c1 : q = p + 1
      · subst c1
        rw [if_neg (by omega), if_pos rfl]
        simp only [st2, if_true]
      · simp only [st2, if_true, if_neg c1]
        rw [hrow q hq]
        by_cases c2 : q ≤ p
        · rw [if_neg (by omega), if_pos c2]
        · rw [if_pos (by omega), if_neg c2]
    · refine g_aload_n rfl dX8_brings_34 ?_
      refine g_iload rfl dX8_brings_35 ?_
      refine g_aload_n rfl dX8_brings_37 ?_
      refine g_iload rfl dX8_brings_38 ?_
      refine g_iconst dX8_brings_40 ?_
      refine g_isub dX8_brings_41 ?_
      refine g_iald (n := 8) (n - 1 - e - 1) (by first | rfl | assumption) (by first | rfl | assumption) (by omega) (by first | omega | (simp [st2]; done) | (simp [st2]; omega)) (by first | omega | (simp [st2]; done) | (simp [st2]; omega)) dX8_brings_42 ?_
      refine g_iast (n := 8) (n - 1 - e) (by first | rfl | assumption) (by first | rfl | assumption) (by omega) (by first | omega | (simp [st2]; done) | (simp [st2]; omega)) (by first | omega | (simp [st2]; done) | (simp [st2]; omega)) dX8_brings_43 ?_
      refine g_iinc rfl (by decide) dX8_brings_44 ?_
      refine g_goto (t := 25) dX8_brings_47 (by decide) ?_
      refine g_subl [(0, vR 44), (1, vR o), (2, vI (k : Int)), (4, vI (p : Int)), (5, vI ((n - 1 - (e + 1) : Nat) : Int))] (by
        rw [show ((n - 1 - (e + 1) : Nat) : Int) = ((n - 1 - e : Nat) : Int) + (-1) by omega]; rfl) ?_
      refine ih (e + 1) (by omega) (by omega) _ (fun d j hd => by simp only [st2, if_neg hd]; exact hfr d j hd) (fun q hq => ?_)
      by_cases c1 : q = n - 1 - e
      · subst c1
        rw [if_pos (by omega)]
        simp only [st2, if_true]
        rw [hrow _ (by omega), if_neg (by omega)]
      · simp only [st2, if_true, if_neg c1]
        rw [hrow q hq]
        by_cases c2 : n - 1 - e < q
        · rw [if_pos c2, if_pos (by omega)]
        · rw [if_neg c2, if_neg (by omega)]
  have loop1 : ∀ i : Nat, i ≤ n → p = srch (fun j => f j == w) i n → G l g mX8_brings κ K 3 [(0, vR 44), (1, vR o), (2, vI (k : Int)), (3, vI (w : Int)), (4, vI (i : Int))] [] X := by
    refine upTo n ?_
    intro i hi ih hs
    have hin : i < n := by
      rcases Nat.lt_or_ge i n with z | z
      · exact z
      · rw [srch_end z] at hs
        omega
    have hoi := ho i hin
    have hfi := hf.1 i hin
    refine g_aload_n rfl dX8_brings_3 ?_
    refine g_iload rfl dX8_brings_4 ?_
    refine g_iald (n := 8) (_) (by first | rfl | assumption) (by first | rfl | assumption) rfl (by first | omega | (simp [st2]; done) | (simp [st2]; omega)) (by first | omega | (simp [st2]; done) | (simp [st2]; omega)) dX8_brings_6 ?_
    refine g_iload_n rfl dX8_brings_7 ?_
    refine g_icmp_eq (t := 17) dX8_brings_8 (by decide) (by first | omega | (simp [st2]; done) | (simp [st2]; omega)) (by first | omega | (simp [st2]; done) | (simp [st2]; omega)) (fun b8 => ?_) (fun b8 => ?_)
    · have hq : (fun j => f j == w) i = true := by
        simp only [beq_iff_eq]
        omega
      rw [srch_hit (p := fun j => f j == w) hin hq] at hs
      subst hs
      refine g_aload_n rfl dX8_brings_17 ?_
      refine gf_X8_94 rfl (by first | rfl | assumption) dX8_brings_18 ?_
      refine g_iconst dX8_brings_21 ?_
      refine g_isub dX8_brings_22 ?_
      refine g_istore (by decide) dX8_brings_23 ?_
      refine g_subl [(0, vR 44), (1, vR o), (2, vI (k : Int)), (4, vI (p : Int)), (5, vI ((n - 1 - 0 : Nat) : Int))] (by
        rw [show ((n - 1 - 0 : Nat) : Int) = X 44 5 - 1 by omega]; rfl) ?_
      exact loop2 0 (by omega) X (fun _ _ _ => rfl) (fun q hq => by rw [if_neg (by omega)]; exact ho q hq)
    · have hq : ¬ (fun j => f j == w) i = true := by
        simp only [beq_iff_eq]
        omega
      rw [srch_miss (p := fun j => f j == w) hin hq] at hs
      refine g_iinc rfl (by decide) dX8_brings_11 ?_
      refine g_goto (t := 3) dX8_brings_14 (by decide) ?_
      refine g_subl [(0, vR 44), (1, vR o), (2, vI (k : Int)), (3, vI (w : Int)), (4, vI ((i + 1 : Nat) : Int))] rfl ?_
      exact ih (i + 1) (by omega) (by omega) hs
  refine g_iconst dX8_brings_0 ?_
  refine g_istore (by decide) dX8_brings_1 ?_
  refine g_subl [(0, vR 44), (1, vR o), (2, vI (k : Int)), (3, vI (w : Int)), (4, vI ((0 : Nat) : Int))] rfl ?_
  exact loop1 0 (by omega) ep
