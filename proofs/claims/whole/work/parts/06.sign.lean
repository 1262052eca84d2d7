theorem kE {K : AV → Mm → Prop} {X : Mm} {v w : Int} (h : K (vI v) X) (e : v = w) : K (vI w) X := e ▸ h
theorem kEJ {K : AV → Mm → Prop} {X : Mm} {v w : Int} (h : K (vJ v) X) (e : v = w) : K (vJ w) X := e ▸ h
theorem sq_bd {a B : Int} (h1 : -B ≤ a) (h2 : a ≤ B) : 0 ≤ a * a ∧ a * a ≤ B * B := by
  have h3 : 0 ≤ (B - a) * (B + a) := Int.mul_nonneg (by omega) (by omega)
  have h4 : (B - a) * (B + a) = B * B - a * a := by
    rw [Int.sub_mul, Int.mul_add, Int.mul_add, Int.mul_comm a B]; omega
  refine ⟨?_, by omega⟩
  rcases Int.le_total 0 a with h | h
  · exact Int.mul_nonneg h h
  · have := Int.mul_nonneg (a := -a) (b := -a) (by omega) (by omega)
    rwa [Int.neg_mul_neg] at this
/-- the sign of a + b times the root of r -/
def sgn (r a b : Int) : Int :=
  if r = 0 ∨ b = 0 then (if 0 < a then 1 else if a < 0 then -1 else 0)
  else if 0 ≤ a ∧ 0 < b then 1
  else if a ≤ 0 ∧ b < 0 then -1
  else if 0 < a then (if r * b * b < a * a then 1 else if a * a < r * b * b then -1 else 0)
  else (if a * a < r * b * b then 1 else if r * b * b < a * a then -1 else 0)
def isRoot (r : Int) : Prop := r = 0 ∨ r = 2 ∨ r = 3 ∨ r = 5 ∨ r = 7
theorem sq_r {r : Nat} (hr : r = 2 ∨ r = 3 ∨ r = 5 ∨ r = 7) : ∀ n : Nat, ∀ a b : Nat, b ≤ n → a * a = r * (b * b) → b = 0 := by
  intro n
  induction n using Nat.strongRecOn with
  | _ n ih =>
    intro a b hb h
    rcases Nat.eq_zero_or_pos b with q | q
    · exact q
    · exfalso
      have key : ∀ x : Nat, (x * x) % r = 0 → x % r = 0 := by
        intro x hx
        rw [Nat.mul_mod] at hx
        have hlt : x % r < r := Nat.mod_lt _ (by omega)
        rcases hr with e | e | e | e <;> subst e
        · rcases (show x % 2 = 0 ∨ x % 2 = 1 by omega) with e | e <;> rw [e] at hx <;> simp at hx <;> omega
        · rcases (show x % 3 = 0 ∨ x % 3 = 1 ∨ x % 3 = 2 by omega) with e | e | e <;> rw [e] at hx <;> simp at hx <;> omega
        · rcases (show x % 5 = 0 ∨ x % 5 = 1 ∨ x % 5 = 2 ∨ x % 5 = 3 ∨ x % 5 = 4 by omega) with e | e | e | e | e <;> rw [e] at hx <;> simp at hx <;> omega
        · rcases (show x % 7 = 0 ∨ x % 7 = 1 ∨ x % 7 = 2 ∨ x % 7 = 3 ∨ x % 7 = 4 ∨ x % 7 = 5 ∨ x % 7 = 6 by omega) with e | e | e | e | e | e | e <;> rw [e] at hx <;> simp at hx <;> omega
      have ha : a % r = 0 := key a (by rw [h]; exact Nat.mul_mod_right _ _)
      obtain ⟨a1, rfl⟩ : ∃ a1, a = r * a1 := ⟨a / r, (Nat.mul_div_cancel' (Nat.dvd_of_mod_eq_zero ha)).symm⟩
      have hrp : 0 < r := by omega
      have h2 : b * b = r * (a1 * a1) := by
        have h3 : r * (r * (a1 * a1)) = r * (b * b) := by rw [← h]; simp only [Nat.mul_assoc, Nat.mul_left_comm]
        exact (Nat.eq_of_mul_eq_mul_left hrp h3).symm
      have hb0 : b % r = 0 := key b (by rw [h2]; exact Nat.mul_mod_right _ _)
      have hab : a1 < b := by
        rcases Nat.lt_or_ge a1 b with z | z
        · exact z
        · exfalso
          have z2 : b * b ≤ a1 * a1 := Nat.mul_le_mul z z
          have z3 : 0 < b * b := Nat.mul_pos q q
          have z4 : 2 * (a1 * a1) ≤ r * (a1 * a1) := Nat.mul_le_mul_right _ (by omega)
          omega
      have h5 := ih a1 (by omega) b a1 (Nat.le_refl _) h2
      have h6 := Nat.mul_pos q q
      rw [h2, h5] at h6
      simp at h6
theorem root_ne {r a b : Int} (hr : isRoot r) (h0 : r ≠ 0) (hb : b ≠ 0) : a * a ≠ r * b * b := by
  intro h
  have h1 : (a.natAbs * a.natAbs : Nat) = r.toNat * (b.natAbs * b.natAbs) := by
    apply Int.ofNat_inj.mp
    rw [Int.natCast_mul, Int.natCast_mul, Int.natCast_mul, Int.natAbs_mul_self' a, Int.natAbs_mul_self' b, Int.toNat_of_nonneg (by unfold isRoot at hr; omega), h, Int.mul_assoc]
  have h2 := sq_r (r := r.toNat) (by unfold isRoot at hr; omega) _ _ _ (Nat.le_refl _) h1
  omega
theorem bb_pos {r b : Int} (hr : isRoot r) (hb : -1073741824 ≤ b ∧ b ≤ 1073741824) : 0 ≤ r * b * b ∧ r * b * b ≤ 8070450532247928832 := by
  have h := sq_bd (a := b) (B := 1073741824) (by omega) (by omega)
  rw [Int.mul_assoc]
  unfold isRoot at hr
  rcases hr with e | e | e | e | e <;> subst e <;> omega
set_option maxRecDepth 100000 in
set_option maxHeartbeats 4000000 in
theorem ct_X7_signOf {l : Launch} {g : Geo} {X : Mm} {K : AV → Mm → Prop} {a b r : Int} (hr : isRoot r) (ha : -1073741824 ≤ a ∧ a ≤ 1073741824) (hb : -1073741824 ≤ b ∧ b ≤ 1073741824) (hk : K (vI (sgn r a b)) X) : Ct l g mX7_signOf [vJ a, vJ b, vI r] X K := by
  refine enter (by decide) (Nat.le_of_ble_eq_true rfl) (fun κ => ?_)
  have h1 := sq_bd (a := a) (B := 1073741824) (by omega) (by omega)
  have h2 := bb_pos hr hb
  have h3 := root_ne (a := a) (b := b) hr
  have hr2 := hr
  unfold isRoot at hr2
  unfold sgn at hk
  refine g_lload_n rfl dX7_signOf_0 ?_
  refine g_lconst rfl dX7_signOf_1 ?_
  refine g_lle (t := 10) dX7_signOf_2 dX7_signOf_3 (by decide) (by first | omega | (simp [st2]; done) | (simp [st2]; omega)) (by first | omega | (simp [st2]; done) | (simp [st2]; omega)) (fun b2 => ?_) (fun b2 => ?_)
  · refine g_lload_n rfl dX7_signOf_10 ?_
    refine g_lconst rfl dX7_signOf_11 ?_
    refine g_lge (t := 20) dX7_signOf_12 dX7_signOf_13 (by decide) (by first | omega | (simp [st2]; done) | (simp [st2]; omega)) (by first | omega | (simp [st2]; done) | (simp [st2]; omega)) (fun b12 => ?_) (fun b12 => ?_)
    · refine g_iconst dX7_signOf_20 ?_
      refine g_istore (by decide) dX7_signOf_21 ?_
      refine g_iload rfl dX7_signOf_23 ?_
      refine g_if_eq (t := 34) dX7_signOf_25 (by decide) (by first | omega | (simp [st2]; done) | (simp [st2]; omega)) (fun b25 => ?_) (fun b25 => ?_)
      · refine g_iload rfl dX7_signOf_34 ?_
        refine g_ireturn rfl dX7_signOf_36 ?_
        refine kE hk ?_
        repeat' split
        all_goals omega
      · refine g_lload_n rfl dX7_signOf_28 ?_
        refine g_lconst rfl dX7_signOf_29 ?_
        refine g_lne (t := 37) dX7_signOf_30 dX7_signOf_31 (by decide) (by first | omega | (simp [st2]; done) | (simp [st2]; omega)) (by first | omega | (simp [st2]; done) | (simp [st2]; omega)) (fun b30 => ?_) (fun b30 => ?_)
        · refine g_lload_n rfl dX7_signOf_37 ?_
          refine g_lconst rfl dX7_signOf_38 ?_
          refine g_lle (t := 47) dX7_signOf_39 dX7_signOf_40 (by decide) (by first | omega | (simp [st2]; done) | (simp [st2]; omega)) (by first | omega | (simp [st2]; done) | (simp [st2]; omega)) (fun b39 => ?_) (fun b39 => ?_)
          · refine g_iconst dX7_signOf_47 ?_
            refine g_istore (by decide) dX7_signOf_48 ?_
            refine g_iload rfl dX7_signOf_50 ?_
            refine g_if_eq (t := 62) dX7_signOf_52 (by decide) (by first | omega | (simp [st2]; done) | (simp [st2]; omega)) (fun b52 => ?_) (fun b52 => ?_)
            · refine g_iload rfl dX7_signOf_62 ?_
              refine g_ireturn rfl dX7_signOf_64 ?_
              refine kE hk ?_
              repeat' split
              all_goals omega
            · refine g_iload rfl dX7_signOf_55 ?_
              refine g_iload rfl dX7_signOf_57 ?_
              refine g_icmp_ne (t := 65) dX7_signOf_59 (by decide) (by first | omega | (simp [st2]; done) | (simp [st2]; omega)) (by first | omega | (simp [st2]; done) | (simp [st2]; omega)) (fun b59 => ?_) (fun b59 => ?_)
              · refine g_lload_n rfl dX7_signOf_65 ?_
                refine g_lload_n rfl dX7_signOf_66 ?_
                refine g_lmul dX7_signOf_67 ?_
                refine g_iload rfl dX7_signOf_68 ?_
                refine g_i2l (by first | omega | (simp [st2]; done) | (simp [st2]; omega)) dX7_signOf_70 ?_
                refine g_lload_n rfl dX7_signOf_71 ?_
                refine g_lmul dX7_signOf_72 ?_
                refine g_lload_n rfl dX7_signOf_73 ?_
                refine g_lmul dX7_signOf_74 ?_
                refine g_lle (t := 84) dX7_signOf_75 dX7_signOf_76 (by decide) (by first | omega | (simp [st2]; done) | (simp [st2]; omega)) (by first | omega | (simp [st2]; done) | (simp [st2]; omega)) (fun b75 => ?_) (fun b75 => ?_)
                · refine g_iload rfl dX7_signOf_84 ?_
                  refine g_ireturn rfl dX7_signOf_86 ?_
                  refine kE hk ?_
                  repeat' split
                  all_goals omega
                · refine g_iload rfl dX7_signOf_79 ?_
                  refine g_goto (t := 86) dX7_signOf_81 (by decide) ?_
                  refine g_ireturn rfl dX7_signOf_86 ?_
                  refine kE hk ?_
                  repeat' split
                  all_goals omega
              · refine g_iload rfl dX7_signOf_62 ?_
                refine g_ireturn rfl dX7_signOf_64 ?_
                refine kE hk ?_
                repeat' split
                all_goals omega
          · refine g_iconst dX7_signOf_43 ?_
            refine g_goto (t := 48) dX7_signOf_44 (by decide) ?_
            refine g_istore (by decide) dX7_signOf_48 ?_
            refine g_iload rfl dX7_signOf_50 ?_
            refine g_if_eq (t := 62) dX7_signOf_52 (by decide) (by first | omega | (simp [st2]; done) | (simp [st2]; omega)) (fun b52 => ?_) (fun b52 => ?_)
            · refine g_iload rfl dX7_signOf_62 ?_
              refine g_ireturn rfl dX7_signOf_64 ?_
              refine kE hk ?_
              repeat' split
              all_goals omega
            · refine g_iload rfl dX7_signOf_55 ?_
              refine g_iload rfl dX7_signOf_57 ?_
              refine g_icmp_ne (t := 65) dX7_signOf_59 (by decide) (by first | omega | (simp [st2]; done) | (simp [st2]; omega)) (by first | omega | (simp [st2]; done) | (simp [st2]; omega)) (fun b59 => ?_) (fun b59 => ?_)
              · refine g_lload_n rfl dX7_signOf_65 ?_
                refine g_lload_n rfl dX7_signOf_66 ?_
                refine g_lmul dX7_signOf_67 ?_
                refine g_iload rfl dX7_signOf_68 ?_
                refine g_i2l (by first | omega | (simp [st2]; done) | (simp [st2]; omega)) dX7_signOf_70 ?_
                refine g_lload_n rfl dX7_signOf_71 ?_
                refine g_lmul dX7_signOf_72 ?_
                refine g_lload_n rfl dX7_signOf_73 ?_
                refine g_lmul dX7_signOf_74 ?_
                refine g_lle (t := 84) dX7_signOf_75 dX7_signOf_76 (by decide) (by first | omega | (simp [st2]; done) | (simp [st2]; omega)) (by first | omega | (simp [st2]; done) | (simp [st2]; omega)) (fun b75 => ?_) (fun b75 => ?_)
                · refine g_iload rfl dX7_signOf_84 ?_
                  refine g_ireturn rfl dX7_signOf_86 ?_
                  refine kE hk ?_
                  repeat' split
                  all_goals omega
                · refine g_iload rfl dX7_signOf_79 ?_
                  refine g_goto (t := 86) dX7_signOf_81 (by decide) ?_
                  refine g_ireturn rfl dX7_signOf_86 ?_
                  refine kE hk ?_
                  repeat' split
                  all_goals omega
              · refine g_iload rfl dX7_signOf_62 ?_
                refine g_ireturn rfl dX7_signOf_64 ?_
                refine kE hk ?_
                repeat' split
                all_goals omega
        · refine g_iload rfl dX7_signOf_34 ?_
          refine g_ireturn rfl dX7_signOf_36 ?_
          refine kE hk ?_
          repeat' split
          all_goals omega
    · refine g_iconst dX7_signOf_16 ?_
      refine g_goto (t := 21) dX7_signOf_17 (by decide) ?_
      refine g_istore (by decide) dX7_signOf_21 ?_
      refine g_iload rfl dX7_signOf_23 ?_
      refine g_if_eq (t := 34) dX7_signOf_25 (by decide) (by first | omega | (simp [st2]; done) | (simp [st2]; omega)) (fun b25 => ?_) (fun b25 => ?_)
      · refine g_iload rfl dX7_signOf_34 ?_
        refine g_ireturn rfl dX7_signOf_36 ?_
        refine kE hk ?_
        repeat' split
        all_goals omega
      · refine g_lload_n rfl dX7_signOf_28 ?_
        refine g_lconst rfl dX7_signOf_29 ?_
        refine g_lne (t := 37) dX7_signOf_30 dX7_signOf_31 (by decide) (by first | omega | (simp [st2]; done) | (simp [st2]; omega)) (by first | omega | (simp [st2]; done) | (simp [st2]; omega)) (fun b30 => ?_) (fun b30 => ?_)
        · refine g_lload_n rfl dX7_signOf_37 ?_
          refine g_lconst rfl dX7_signOf_38 ?_
          refine g_lle (t := 47) dX7_signOf_39 dX7_signOf_40 (by decide) (by first | omega | (simp [st2]; done) | (simp [st2]; omega)) (by first | omega | (simp [st2]; done) | (simp [st2]; omega)) (fun b39 => ?_) (fun b39 => ?_)
          · refine g_iconst dX7_signOf_47 ?_
            refine g_istore (by decide) dX7_signOf_48 ?_
            refine g_iload rfl dX7_signOf_50 ?_
            refine g_if_eq (t := 62) dX7_signOf_52 (by decide) (by first | omega | (simp [st2]; done) | (simp [st2]; omega)) (fun b52 => ?_) (fun b52 => ?_)
            · refine g_iload rfl dX7_signOf_62 ?_
              refine g_ireturn rfl dX7_signOf_64 ?_
              refine kE hk ?_
              repeat' split
              all_goals omega
            · refine g_iload rfl dX7_signOf_55 ?_
              refine g_iload rfl dX7_signOf_57 ?_
              refine g_icmp_ne (t := 65) dX7_signOf_59 (by decide) (by first | omega | (simp [st2]; done) | (simp [st2]; omega)) (by first | omega | (simp [st2]; done) | (simp [st2]; omega)) (fun b59 => ?_) (fun b59 => ?_)
              · refine g_lload_n rfl dX7_signOf_65 ?_
                refine g_lload_n rfl dX7_signOf_66 ?_
                refine g_lmul dX7_signOf_67 ?_
                refine g_iload rfl dX7_signOf_68 ?_
                refine g_i2l (by first | omega | (simp [st2]; done) | (simp [st2]; omega)) dX7_signOf_70 ?_
                refine g_lload_n rfl dX7_signOf_71 ?_
                refine g_lmul dX7_signOf_72 ?_
                refine g_lload_n rfl dX7_signOf_73 ?_
                refine g_lmul dX7_signOf_74 ?_
                refine g_lle (t := 84) dX7_signOf_75 dX7_signOf_76 (by decide) (by first | omega | (simp [st2]; done) | (simp [st2]; omega)) (by first | omega | (simp [st2]; done) | (simp [st2]; omega)) (fun b75 => ?_) (fun b75 => ?_)
                · refine g_iload rfl dX7_signOf_84 ?_
                  refine g_ireturn rfl dX7_signOf_86 ?_
                  refine kE hk ?_
                  repeat' split
                  all_goals omega
                · refine g_iload rfl dX7_signOf_79 ?_
                  refine g_goto (t := 86) dX7_signOf_81 (by decide) ?_
                  refine g_ireturn rfl dX7_signOf_86 ?_
                  refine kE hk ?_
                  repeat' split
                  all_goals omega
              · refine g_iload rfl dX7_signOf_62 ?_
                refine g_ireturn rfl dX7_signOf_64 ?_
                refine kE hk ?_
                repeat' split
                all_goals omega
          · refine g_iconst dX7_signOf_43 ?_
            refine g_goto (t := 48) dX7_signOf_44 (by decide) ?_
            refine g_istore (by decide) dX7_signOf_48 ?_
            refine g_iload rfl dX7_signOf_50 ?_
            refine g_if_eq (t := 62) dX7_signOf_52 (by decide) (by first | omega | (simp [st2]; done) | (simp [st2]; omega)) (fun b52 => ?_) (fun b52 => ?_)
            · refine g_iload rfl dX7_signOf_62 ?_
              refine g_ireturn rfl dX7_signOf_64 ?_
              refine kE hk ?_
              repeat' split
              all_goals omega
            · refine g_iload rfl dX7_signOf_55 ?_
              refine g_iload rfl dX7_signOf_57 ?_
              refine g_icmp_ne (t := 65) dX7_signOf_59 (by decide) (by first | omega | (simp [st2]; done) | (simp [st2]; omega)) (by first | omega | (simp [st2]; done) | (simp [st2]; omega)) (fun b59 => ?_) (fun b59 => ?_)
              · refine g_lload_n rfl dX7_signOf_65 ?_
                refine g_lload_n rfl dX7_signOf_66 ?_
                refine g_lmul dX7_signOf_67 ?_
                refine g_iload rfl dX7_signOf_68 ?_
                refine g_i2l (by first | omega | (simp [st2]; done) | (simp [st2]; omega)) dX7_signOf_70 ?_
                refine g_lload_n rfl dX7_signOf_71 ?_
                refine g_lmul dX7_signOf_72 ?_
                refine g_lload_n rfl dX7_signOf_73 ?_
                refine g_lmul dX7_signOf_74 ?_
                refine g_lle (t := 84) dX7_signOf_75 dX7_signOf_76 (by decide) (by first | omega | (simp [st2]; done) | (simp [st2]; omega)) (by first | omega | (simp [st2]; done) | (simp [st2]; omega)) (fun b75 => ?_) (fun b75 => ?_)
                · refine g_iload rfl dX7_signOf_84 ?_
                  refine g_ireturn rfl dX7_signOf_86 ?_
                  refine kE hk ?_
                  repeat' split
                  all_goals omega
                · refine g_iload rfl dX7_signOf_79 ?_
                  refine g_goto (t := 86) dX7_signOf_81 (by decide) ?_
                  refine g_ireturn rfl dX7_signOf_86 ?_
                  refine kE hk ?_
                  repeat' split
                  all_goals omega
              · refine g_iload rfl dX7_signOf_62 ?_
                refine g_ireturn rfl dX7_signOf_64 ?_
                refine kE hk ?_
                repeat' split
                all_goals omega
        · refine g_iload rfl dX7_signOf_34 ?_
          refine g_ireturn rfl dX7_signOf_36 ?_
          refine kE hk ?_
          repeat' split
          all_goals omega
  · refine g_iconst dX7_signOf_6 ?_
    refine g_goto (t := 21) dX7_signOf_7 (by decide) ?_
    refine g_istore (by decide) dX7_signOf_21 ?_
    refine g_iload rfl dX7_signOf_23 ?_
    refine g_if_eq (t := 34) dX7_signOf_25 (by decide) (by first | omega | (simp [st2]; done) | (simp [st2]; omega)) (fun b25 => ?_) (fun b25 => ?_)
    · refine g_iload rfl dX7_signOf_34 ?_
      refine g_ireturn rfl dX7_signOf_36 ?_
      refine kE hk ?_
      repeat' split
      all_goals omega
    · refine g_lload_n rfl dX7_signOf_28 ?_
      refine g_lconst rfl dX7_signOf_29 ?_
      refine g_lne (t := 37) dX7_signOf_30 dX7_signOf_31 (by decide) (by first | omega | (simp [st2]; done) | (simp [st2]; omega)) (by first | omega | (simp [st2]; done) | (simp [st2]; omega)) (fun b30 => ?_) (fun b30 => ?_)
      · refine g_lload_n rfl dX7_signOf_37 ?_
        refine g_lconst rfl dX7_signOf_38 ?_
        refine g_lle (t := 47) dX7_signOf_39 dX7_signOf_40 (by decide) (by first | omega | (simp [st2]; done) | (simp [st2]; omega)) (by first | omega | (simp [st2]; done) | (simp [st2]; omega)) (fun b39 => ?_) (fun b39 => ?_)
        · refine g_iconst dX7_signOf_47 ?_
          refine g_istore (by decide) dX7_signOf_48 ?_
          refine g_iload rfl dX7_signOf_50 ?_
          refine g_if_eq (t := 62) dX7_signOf_52 (by decide) (by first | omega | (simp [st2]; done) | (simp [st2]; omega)) (fun b52 => ?_) (fun b52 => ?_)
          · refine g_iload rfl dX7_signOf_62 ?_
            refine g_ireturn rfl dX7_signOf_64 ?_
            refine kE hk ?_
            repeat' split
            all_goals omega
          · refine g_iload rfl dX7_signOf_55 ?_
            refine g_iload rfl dX7_signOf_57 ?_
            refine g_icmp_ne (t := 65) dX7_signOf_59 (by decide) (by first | omega | (simp [st2]; done) | (simp [st2]; omega)) (by first | omega | (simp [st2]; done) | (simp [st2]; omega)) (fun b59 => ?_) (fun b59 => ?_)
            · refine g_lload_n rfl dX7_signOf_65 ?_
              refine g_lload_n rfl dX7_signOf_66 ?_
              refine g_lmul dX7_signOf_67 ?_
              refine g_iload rfl dX7_signOf_68 ?_
              refine g_i2l (by first | omega | (simp [st2]; done) | (simp [st2]; omega)) dX7_signOf_70 ?_
              refine g_lload_n rfl dX7_signOf_71 ?_
              refine g_lmul dX7_signOf_72 ?_
              refine g_lload_n rfl dX7_signOf_73 ?_
              refine g_lmul dX7_signOf_74 ?_
              refine g_lle (t := 84) dX7_signOf_75 dX7_signOf_76 (by decide) (by first | omega | (simp [st2]; done) | (simp [st2]; omega)) (by first | omega | (simp [st2]; done) | (simp [st2]; omega)) (fun b75 => ?_) (fun b75 => ?_)
              · refine g_iload rfl dX7_signOf_84 ?_
                refine g_ireturn rfl dX7_signOf_86 ?_
                refine kE hk ?_
                repeat' split
                all_goals omega
              · refine g_iload rfl dX7_signOf_79 ?_
                refine g_goto (t := 86) dX7_signOf_81 (by decide) ?_
                refine g_ireturn rfl dX7_signOf_86 ?_
                refine kE hk ?_
                repeat' split
                all_goals omega
            · refine g_iload rfl dX7_signOf_62 ?_
              refine g_ireturn rfl dX7_signOf_64 ?_
              refine kE hk ?_
              repeat' split
              all_goals omega
        · refine g_iconst dX7_signOf_43 ?_
          refine g_goto (t := 48) dX7_signOf_44 (by decide) ?_
          refine g_istore (by decide) dX7_signOf_48 ?_
          refine g_iload rfl dX7_signOf_50 ?_
          refine g_if_eq (t := 62) dX7_signOf_52 (by decide) (by first | omega | (simp [st2]; done) | (simp [st2]; omega)) (fun b52 => ?_) (fun b52 => ?_)
          · refine g_iload rfl dX7_signOf_62 ?_
            refine g_ireturn rfl dX7_signOf_64 ?_
            refine kE hk ?_
            repeat' split
            all_goals omega
          · refine g_iload rfl dX7_signOf_55 ?_
            refine g_iload rfl dX7_signOf_57 ?_
            refine g_icmp_ne (t := 65) dX7_signOf_59 (by decide) (by first | omega | (simp [st2]; done) | (simp [st2]; omega)) (by first | omega | (simp [st2]; done) | (simp [st2]; omega)) (fun b59 => ?_) (fun b59 => ?_)
            · refine g_lload_n rfl dX7_signOf_65 ?_
              refine g_lload_n rfl dX7_signOf_66 ?_
              refine g_lmul dX7_signOf_67 ?_
              refine g_iload rfl dX7_signOf_68 ?_
              refine g_i2l (by first | omega | (simp [st2]; done) | (simp [st2]; omega)) dX7_signOf_70 ?_
              refine g_lload_n rfl dX7_signOf_71 ?_
              refine g_lmul dX7_signOf_72 ?_
              refine g_lload_n rfl dX7_signOf_73 ?_
              refine g_lmul dX7_signOf_74 ?_
              refine g_lle (t := 84) dX7_signOf_75 dX7_signOf_76 (by decide) (by first | omega | (simp [st2]; done) | (simp [st2]; omega)) (by first | omega | (simp [st2]; done) | (simp [st2]; omega)) (fun b75 => ?_) (fun b75 => ?_)
              · refine g_iload rfl dX7_signOf_84 ?_
                refine g_ireturn rfl dX7_signOf_86 ?_
                refine kE hk ?_
                repeat' split
                all_goals omega
              · refine g_iload rfl dX7_signOf_79 ?_
                refine g_goto (t := 86) dX7_signOf_81 (by decide) ?_
                refine g_ireturn rfl dX7_signOf_86 ?_
                refine kE hk ?_
                repeat' split
                all_goals omega
            · refine g_iload rfl dX7_signOf_62 ?_
              refine g_ireturn rfl dX7_signOf_64 ?_
              refine kE hk ?_
              repeat' split
              all_goals omega
      · refine g_iload rfl dX7_signOf_34 ?_
        refine g_ireturn rfl dX7_signOf_36 ?_
        refine kE hk ?_
        repeat' split
        all_goals omega
set_option maxRecDepth 100000 in
set_option maxHeartbeats 4000000 in
theorem ct_X8_signOf {l : Launch} {g : Geo} {X : Mm} {K : AV → Mm → Prop} {a b : Int} (hr : isRoot (X 44 0)) (ha : -1073741824 ≤ a ∧ a ≤ 1073741824) (hb : -1073741824 ≤ b ∧ b ≤ 1073741824) (hk : K (vI (sgn (X 44 0) a b)) X) : Ct l g mX8_signOf [vR 44, vJ a, vJ b] X K := by
  refine enter (by decide) (Nat.le_of_ble_eq_true rfl) (fun κ => ?_)
  have h1 := sq_bd (a := a) (B := 1073741824) (by omega) (by omega)
  have h2 := bb_pos hr hb
  have hr2 := hr
  unfold isRoot at hr2
  unfold sgn at hk
  refine g_lload_n rfl dX8_signOf_0 ?_
  refine g_lconst rfl dX8_signOf_1 ?_
  refine g_leq (t := 13) dX8_signOf_2 dX8_signOf_3 (by decide) (by first | omega | (simp [st2]; done) | (simp [st2]; omega)) (by first | omega | (simp [st2]; done) | (simp [st2]; omega)) (fun b2 => ?_) (fun b2 => ?_)
  · refine g_lload_n rfl dX8_signOf_13 ?_
    refine g_lconst rfl dX8_signOf_14 ?_
    refine g_lle (t := 23) dX8_signOf_15 dX8_signOf_16 (by decide) (by first | omega | (simp [st2]; done) | (simp [st2]; omega)) (by first | omega | (simp [st2]; done) | (simp [st2]; omega)) (fun b15 => ?_) (fun b15 => ?_)
    · refine g_lload_n rfl dX8_signOf_23 ?_
      refine g_lconst rfl dX8_signOf_24 ?_
      refine g_lge (t := 33) dX8_signOf_25 dX8_signOf_26 (by decide) (by first | omega | (simp [st2]; done) | (simp [st2]; omega)) (by first | omega | (simp [st2]; done) | (simp [st2]; omega)) (fun b25 => ?_) (fun b25 => ?_)
      · refine g_iconst dX8_signOf_33 ?_
        refine g_ireturn rfl dX8_signOf_34 ?_
        refine kE hk ?_
        repeat' split
        all_goals omega
      · refine g_iconst dX8_signOf_29 ?_
        refine g_goto (t := 34) dX8_signOf_30 (by decide) ?_
        refine g_ireturn rfl dX8_signOf_34 ?_
        refine kE hk ?_
        repeat' split
        all_goals omega
    · refine g_iconst dX8_signOf_19 ?_
      refine g_goto (t := 34) dX8_signOf_20 (by decide) ?_
      refine g_ireturn rfl dX8_signOf_34 ?_
      refine kE hk ?_
      repeat' split
      all_goals omega
  · refine g_aload_n rfl dX8_signOf_6 ?_
    refine gf_X8_87 rfl (by first | rfl | assumption) dX8_signOf_7 ?_
    refine g_if_ne (t := 35) dX8_signOf_10 (by decide) (by first | omega | (simp [st2]; done) | (simp [st2]; omega)) (fun b10 => ?_) (fun b10 => ?_)
    · refine g_lload_n rfl dX8_signOf_35 ?_
      refine g_lconst rfl dX8_signOf_36 ?_
      refine g_llt (t := 49) dX8_signOf_37 dX8_signOf_38 (by decide) (by first | omega | (simp [st2]; done) | (simp [st2]; omega)) (by first | omega | (simp [st2]; done) | (simp [st2]; omega)) (fun b37 => ?_) (fun b37 => ?_)
      · refine g_lload_n rfl dX8_signOf_49 ?_
        refine g_lconst rfl dX8_signOf_50 ?_
        refine g_lgt (t := 63) dX8_signOf_51 dX8_signOf_52 (by decide) (by first | omega | (simp [st2]; done) | (simp [st2]; omega)) (by first | omega | (simp [st2]; done) | (simp [st2]; omega)) (fun b51 => ?_) (fun b51 => ?_)
        · refine g_lload_n rfl dX8_signOf_63 ?_
          refine g_lload_n rfl dX8_signOf_64 ?_
          refine g_lmul dX8_signOf_65 ?_
          refine g_lstore (by decide) dX8_signOf_66 ?_
          refine g_aload_n rfl dX8_signOf_68 ?_
          refine gf_X8_87 rfl (by first | rfl | assumption) dX8_signOf_69 ?_
          refine g_i2l (by first | omega | (simp [st2]; done) | (simp [st2]; omega)) dX8_signOf_72 ?_
          refine g_lload_n rfl dX8_signOf_73 ?_
          refine g_lmul dX8_signOf_74 ?_
          refine g_lload_n rfl dX8_signOf_75 ?_
          refine g_lmul dX8_signOf_76 ?_
          refine g_lstore (by decide) dX8_signOf_77 ?_
          refine g_lload_n rfl dX8_signOf_79 ?_
          refine g_lconst rfl dX8_signOf_80 ?_
          refine g_lle (t := 111) dX8_signOf_81 dX8_signOf_82 (by decide) (by first | omega | (simp [st2]; done) | (simp [st2]; omega)) (by first | omega | (simp [st2]; done) | (simp [st2]; omega)) (fun b81 => ?_) (fun b81 => ?_)
          · refine g_lload rfl dX8_signOf_111 ?_
            refine g_lload rfl dX8_signOf_113 ?_
            refine g_lle (t := 123) dX8_signOf_115 dX8_signOf_116 (by decide) (by first | omega | (simp [st2]; done) | (simp [st2]; omega)) (by first | omega | (simp [st2]; done) | (simp [st2]; omega)) (fun b115 => ?_) (fun b115 => ?_)
            · refine g_lload rfl dX8_signOf_123 ?_
              refine g_lload rfl dX8_signOf_125 ?_
              refine g_lge (t := 135) dX8_signOf_127 dX8_signOf_128 (by decide) (by first | omega | (simp [st2]; done) | (simp [st2]; omega)) (by first | omega | (simp [st2]; done) | (simp [st2]; omega)) (fun b127 => ?_) (fun b127 => ?_)
              · refine g_iconst dX8_signOf_135 ?_
                refine g_ireturn rfl dX8_signOf_136 ?_
                refine kE hk ?_
                repeat' split
                all_goals omega
              · refine g_iconst dX8_signOf_131 ?_
                refine g_goto (t := 136) dX8_signOf_132 (by decide) ?_
                refine g_ireturn rfl dX8_signOf_136 ?_
                refine kE hk ?_
                repeat' split
                all_goals omega
            · refine g_iconst dX8_signOf_119 ?_
              refine g_goto (t := 136) dX8_signOf_120 (by decide) ?_
              refine g_ireturn rfl dX8_signOf_136 ?_
              refine kE hk ?_
              repeat' split
              all_goals omega
          · refine g_lload rfl dX8_signOf_85 ?_
            refine g_lload rfl dX8_signOf_87 ?_
            refine g_lle (t := 97) dX8_signOf_89 dX8_signOf_90 (by decide) (by first | omega | (simp [st2]; done) | (simp [st2]; omega)) (by first | omega | (simp [st2]; done) | (simp [st2]; omega)) (fun b89 => ?_) (fun b89 => ?_)
            · refine g_lload rfl dX8_signOf_97 ?_
              refine g_lload rfl dX8_signOf_99 ?_
              refine g_lge (t := 109) dX8_signOf_101 dX8_signOf_102 (by decide) (by first | omega | (simp [st2]; done) | (simp [st2]; omega)) (by first | omega | (simp [st2]; done) | (simp [st2]; omega)) (fun b101 => ?_) (fun b101 => ?_)
              · refine g_iconst dX8_signOf_109 ?_
                refine g_ireturn rfl dX8_signOf_110 ?_
                refine kE hk ?_
                repeat' split
                all_goals omega
              · refine g_iconst dX8_signOf_105 ?_
                refine g_goto (t := 110) dX8_signOf_106 (by decide) ?_
                refine g_ireturn rfl dX8_signOf_110 ?_
                refine kE hk ?_
                repeat' split
                all_goals omega
            · refine g_iconst dX8_signOf_93 ?_
              refine g_goto (t := 110) dX8_signOf_94 (by decide) ?_
              refine g_ireturn rfl dX8_signOf_110 ?_
              refine kE hk ?_
              repeat' split
              all_goals omega
        · refine g_lload_n rfl dX8_signOf_55 ?_
          refine g_lconst rfl dX8_signOf_56 ?_
          refine g_lge (t := 63) dX8_signOf_57 dX8_signOf_58 (by decide) (by first | omega | (simp [st2]; done) | (simp [st2]; omega)) (by first | omega | (simp [st2]; done) | (simp [st2]; omega)) (fun b57 => ?_) (fun b57 => ?_)
          · refine g_lload_n rfl dX8_signOf_63 ?_
            refine g_lload_n rfl dX8_signOf_64 ?_
            refine g_lmul dX8_signOf_65 ?_
            refine g_lstore (by decide) dX8_signOf_66 ?_
            refine g_aload_n rfl dX8_signOf_68 ?_
            refine gf_X8_87 rfl (by first | rfl | assumption) dX8_signOf_69 ?_
            refine g_i2l (by first | omega | (simp [st2]; done) | (simp [st2]; omega)) dX8_signOf_72 ?_
            refine g_lload_n rfl dX8_signOf_73 ?_
            refine g_lmul dX8_signOf_74 ?_
            refine g_lload_n rfl dX8_signOf_75 ?_
            refine g_lmul dX8_signOf_76 ?_
            refine g_lstore (by decide) dX8_signOf_77 ?_
            refine g_lload_n rfl dX8_signOf_79 ?_
            refine g_lconst rfl dX8_signOf_80 ?_
            refine g_lle (t := 111) dX8_signOf_81 dX8_signOf_82 (by decide) (by first | omega | (simp [st2]; done) | (simp [st2]; omega)) (by first | omega | (simp [st2]; done) | (simp [st2]; omega)) (fun b81 => ?_) (fun b81 => ?_)
            · refine g_lload rfl dX8_signOf_111 ?_
              refine g_lload rfl dX8_signOf_113 ?_
              refine g_lle (t := 123) dX8_signOf_115 dX8_signOf_116 (by decide) (by first | omega | (simp [st2]; done) | (simp [st2]; omega)) (by first | omega | (simp [st2]; done) | (simp [st2]; omega)) (fun b115 => ?_) (fun b115 => ?_)
              · refine g_lload rfl dX8_signOf_123 ?_
                refine g_lload rfl dX8_signOf_125 ?_
                refine g_lge (t := 135) dX8_signOf_127 dX8_signOf_128 (by decide) (by first | omega | (simp [st2]; done) | (simp [st2]; omega)) (by first | omega | (simp [st2]; done) | (simp [st2]; omega)) (fun b127 => ?_) (fun b127 => ?_)
                · refine g_iconst dX8_signOf_135 ?_
                  refine g_ireturn rfl dX8_signOf_136 ?_
                  refine kE hk ?_
                  repeat' split
                  all_goals omega
                · refine g_iconst dX8_signOf_131 ?_
                  refine g_goto (t := 136) dX8_signOf_132 (by decide) ?_
                  refine g_ireturn rfl dX8_signOf_136 ?_
                  refine kE hk ?_
                  repeat' split
                  all_goals omega
              · refine g_iconst dX8_signOf_119 ?_
                refine g_goto (t := 136) dX8_signOf_120 (by decide) ?_
                refine g_ireturn rfl dX8_signOf_136 ?_
                refine kE hk ?_
                repeat' split
                all_goals omega
            · refine g_lload rfl dX8_signOf_85 ?_
              refine g_lload rfl dX8_signOf_87 ?_
              refine g_lle (t := 97) dX8_signOf_89 dX8_signOf_90 (by decide) (by first | omega | (simp [st2]; done) | (simp [st2]; omega)) (by first | omega | (simp [st2]; done) | (simp [st2]; omega)) (fun b89 => ?_) (fun b89 => ?_)
              · refine g_lload rfl dX8_signOf_97 ?_
                refine g_lload rfl dX8_signOf_99 ?_
                refine g_lge (t := 109) dX8_signOf_101 dX8_signOf_102 (by decide) (by first | omega | (simp [st2]; done) | (simp [st2]; omega)) (by first | omega | (simp [st2]; done) | (simp [st2]; omega)) (fun b101 => ?_) (fun b101 => ?_)
                · refine g_iconst dX8_signOf_109 ?_
                  refine g_ireturn rfl dX8_signOf_110 ?_
                  refine kE hk ?_
                  repeat' split
                  all_goals omega
                · refine g_iconst dX8_signOf_105 ?_
                  refine g_goto (t := 110) dX8_signOf_106 (by decide) ?_
                  refine g_ireturn rfl dX8_signOf_110 ?_
                  refine kE hk ?_
                  repeat' split
                  all_goals omega
              · refine g_iconst dX8_signOf_93 ?_
                refine g_goto (t := 110) dX8_signOf_94 (by decide) ?_
                refine g_ireturn rfl dX8_signOf_110 ?_
                refine kE hk ?_
                repeat' split
                all_goals omega
          · refine g_iconst dX8_signOf_61 ?_
            refine g_ireturn rfl dX8_signOf_62 ?_
            refine kE hk ?_
            repeat' split
            all_goals omega
      · refine g_lload_n rfl dX8_signOf_41 ?_
        refine g_lconst rfl dX8_signOf_42 ?_
        refine g_lle (t := 49) dX8_signOf_43 dX8_signOf_44 (by decide) (by first | omega | (simp [st2]; done) | (simp [st2]; omega)) (by first | omega | (simp [st2]; done) | (simp [st2]; omega)) (fun b43 => ?_) (fun b43 => ?_)
        · refine g_lload_n rfl dX8_signOf_49 ?_
          refine g_lconst rfl dX8_signOf_50 ?_
          refine g_lgt (t := 63) dX8_signOf_51 dX8_signOf_52 (by decide) (by first | omega | (simp [st2]; done) | (simp [st2]; omega)) (by first | omega | (simp [st2]; done) | (simp [st2]; omega)) (fun b51 => ?_) (fun b51 => ?_)
          · refine g_lload_n rfl dX8_signOf_63 ?_
            refine g_lload_n rfl dX8_signOf_64 ?_
            refine g_lmul dX8_signOf_65 ?_
            refine g_lstore (by decide) dX8_signOf_66 ?_
            refine g_aload_n rfl dX8_signOf_68 ?_
            refine gf_X8_87 rfl (by first | rfl | assumption) dX8_signOf_69 ?_
            refine g_i2l (by first | omega | (simp [st2]; done) | (simp [st2]; omega)) dX8_signOf_72 ?_
            refine g_lload_n rfl dX8_signOf_73 ?_
            refine g_lmul dX8_signOf_74 ?_
            refine g_lload_n rfl dX8_signOf_75 ?_
            refine g_lmul dX8_signOf_76 ?_
            refine g_lstore (by decide) dX8_signOf_77 ?_
            refine g_lload_n rfl dX8_signOf_79 ?_
            refine g_lconst rfl dX8_signOf_80 ?_
            refine g_lle (t := 111) dX8_signOf_81 dX8_signOf_82 (by decide) (by first | omega | (simp [st2]; done) | (simp [st2]; omega)) (by first | omega | (simp [st2]; done) | (simp [st2]; omega)) (fun b81 => ?_) (fun b81 => ?_)
            · refine g_lload rfl dX8_signOf_111 ?_
              refine g_lload rfl dX8_signOf_113 ?_
              refine g_lle (t := 123) dX8_signOf_115 dX8_signOf_116 (by decide) (by first | omega | (simp [st2]; done) | (simp [st2]; omega)) (by first | omega | (simp [st2]; done) | (simp [st2]; omega)) (fun b115 => ?_) (fun b115 => ?_)
              · refine g_lload rfl dX8_signOf_123 ?_
                refine g_lload rfl dX8_signOf_125 ?_
                refine g_lge (t := 135) dX8_signOf_127 dX8_signOf_128 (by decide) (by first | omega | (simp [st2]; done) | (simp [st2]; omega)) (by first | omega | (simp [st2]; done) | (simp [st2]; omega)) (fun b127 => ?_) (fun b127 => ?_)
                · refine g_iconst dX8_signOf_135 ?_
                  refine g_ireturn rfl dX8_signOf_136 ?_
                  refine kE hk ?_
                  repeat' split
                  all_goals omega
                · refine g_iconst dX8_signOf_131 ?_
                  refine g_goto (t := 136) dX8_signOf_132 (by decide) ?_
                  refine g_ireturn rfl dX8_signOf_136 ?_
                  refine kE hk ?_
                  repeat' split
                  all_goals omega
              · refine g_iconst dX8_signOf_119 ?_
                refine g_goto (t := 136) dX8_signOf_120 (by decide) ?_
                refine g_ireturn rfl dX8_signOf_136 ?_
                refine kE hk ?_
                repeat' split
                all_goals omega
            · refine g_lload rfl dX8_signOf_85 ?_
              refine g_lload rfl dX8_signOf_87 ?_
              refine g_lle (t := 97) dX8_signOf_89 dX8_signOf_90 (by decide) (by first | omega | (simp [st2]; done) | (simp [st2]; omega)) (by first | omega | (simp [st2]; done) | (simp [st2]; omega)) (fun b89 => ?_) (fun b89 => ?_)
              · refine g_lload rfl dX8_signOf_97 ?_
                refine g_lload rfl dX8_signOf_99 ?_
                refine g_lge (t := 109) dX8_signOf_101 dX8_signOf_102 (by decide) (by first | omega | (simp [st2]; done) | (simp [st2]; omega)) (by first | omega | (simp [st2]; done) | (simp [st2]; omega)) (fun b101 => ?_) (fun b101 => ?_)
                · refine g_iconst dX8_signOf_109 ?_
                  refine g_ireturn rfl dX8_signOf_110 ?_
                  refine kE hk ?_
                  repeat' split
                  all_goals omega
                · refine g_iconst dX8_signOf_105 ?_
                  refine g_goto (t := 110) dX8_signOf_106 (by decide) ?_
                  refine g_ireturn rfl dX8_signOf_110 ?_
                  refine kE hk ?_
                  repeat' split
                  all_goals omega
              · refine g_iconst dX8_signOf_93 ?_
                refine g_goto (t := 110) dX8_signOf_94 (by decide) ?_
                refine g_ireturn rfl dX8_signOf_110 ?_
                refine kE hk ?_
                repeat' split
                all_goals omega
          · refine g_lload_n rfl dX8_signOf_55 ?_
            refine g_lconst rfl dX8_signOf_56 ?_
            refine g_lge (t := 63) dX8_signOf_57 dX8_signOf_58 (by decide) (by first | omega | (simp [st2]; done) | (simp [st2]; omega)) (by first | omega | (simp [st2]; done) | (simp [st2]; omega)) (fun b57 => ?_) (fun b57 => ?_)
            · refine g_lload_n rfl dX8_signOf_63 ?_
              refine g_lload_n rfl dX8_signOf_64 ?_
              refine g_lmul dX8_signOf_65 ?_
              refine g_lstore (by decide) dX8_signOf_66 ?_
              refine g_aload_n rfl dX8_signOf_68 ?_
              refine gf_X8_87 rfl (by first | rfl | assumption) dX8_signOf_69 ?_
              refine g_i2l (by first | omega | (simp [st2]; done) | (simp [st2]; omega)) dX8_signOf_72 ?_
              refine g_lload_n rfl dX8_signOf_73 ?_
              refine g_lmul dX8_signOf_74 ?_
              refine g_lload_n rfl dX8_signOf_75 ?_
              refine g_lmul dX8_signOf_76 ?_
              refine g_lstore (by decide) dX8_signOf_77 ?_
              refine g_lload_n rfl dX8_signOf_79 ?_
              refine g_lconst rfl dX8_signOf_80 ?_
              refine g_lle (t := 111) dX8_signOf_81 dX8_signOf_82 (by decide) (by first | omega | (simp [st2]; done) | (simp [st2]; omega)) (by first | omega | (simp [st2]; done) | (simp [st2]; omega)) (fun b81 => ?_) (fun b81 => ?_)
              · refine g_lload rfl dX8_signOf_111 ?_
                refine g_lload rfl dX8_signOf_113 ?_
                refine g_lle (t := 123) dX8_signOf_115 dX8_signOf_116 (by decide) (by first | omega | (simp [st2]; done) | (simp [st2]; omega)) (by first | omega | (simp [st2]; done) | (simp [st2]; omega)) (fun b115 => ?_) (fun b115 => ?_)
                · refine g_lload rfl dX8_signOf_123 ?_
                  refine g_lload rfl dX8_signOf_125 ?_
                  refine g_lge (t := 135) dX8_signOf_127 dX8_signOf_128 (by decide) (by first | omega | (simp [st2]; done) | (simp [st2]; omega)) (by first | omega | (simp [st2]; done) | (simp [st2]; omega)) (fun b127 => ?_) (fun b127 => ?_)
                  · refine g_iconst dX8_signOf_135 ?_
                    refine g_ireturn rfl dX8_signOf_136 ?_
                    refine kE hk ?_
                    repeat' split
                    all_goals omega
                  · refine g_iconst dX8_signOf_131 ?_
                    refine g_goto (t := 136) dX8_signOf_132 (by decide) ?_
                    refine g_ireturn rfl dX8_signOf_136 ?_
                    refine kE hk ?_
                    repeat' split
                    all_goals omega
                · refine g_iconst dX8_signOf_119 ?_
                  refine g_goto (t := 136) dX8_signOf_120 (by decide) ?_
                  refine g_ireturn rfl dX8_signOf_136 ?_
                  refine kE hk ?_
                  repeat' split
                  all_goals omega
              · refine g_lload rfl dX8_signOf_85 ?_
                refine g_lload rfl dX8_signOf_87 ?_
                refine g_lle (t := 97) dX8_signOf_89 dX8_signOf_90 (by decide) (by first | omega | (simp [st2]; done) | (simp [st2]; omega)) (by first | omega | (simp [st2]; done) | (simp [st2]; omega)) (fun b89 => ?_) (fun b89 => ?_)
                · refine g_lload rfl dX8_signOf_97 ?_
                  refine g_lload rfl dX8_signOf_99 ?_
                  refine g_lge (t := 109) dX8_signOf_101 dX8_signOf_102 (by decide) (by first | omega | (simp [st2]; done) | (simp [st2]; omega)) (by first | omega | (simp [st2]; done) | (simp [st2]; omega)) (fun b101 => ?_) (fun b101 => ?_)
                  · refine g_iconst dX8_signOf_109 ?_
                    refine g_ireturn rfl dX8_signOf_110 ?_
                    refine kE hk ?_
                    repeat' split
                    all_goals omega
                  · refine g_iconst dX8_signOf_105 ?_
                    refine g_goto (t := 110) dX8_signOf_106 (by decide) ?_
                    refine g_ireturn rfl dX8_signOf_110 ?_
                    refine kE hk ?_
                    repeat' split
                    all_goals omega
                · refine g_iconst dX8_signOf_93 ?_
                  refine g_goto (t := 110) dX8_signOf_94 (by decide) ?_
                  refine g_ireturn rfl dX8_signOf_110 ?_
                  refine kE hk ?_
                  repeat' split
                  all_goals omega
            · refine g_iconst dX8_signOf_61 ?_
              refine g_ireturn rfl dX8_signOf_62 ?_
              refine kE hk ?_
              repeat' split
              all_goals omega
        · refine g_iconst dX8_signOf_47 ?_
          refine g_ireturn rfl dX8_signOf_48 ?_
          refine kE hk ?_
          repeat' split
          all_goals omega
    · refine g_lload_n rfl dX8_signOf_13 ?_
      refine g_lconst rfl dX8_signOf_14 ?_
      refine g_lle (t := 23) dX8_signOf_15 dX8_signOf_16 (by decide) (by first | omega | (simp [st2]; done) | (simp [st2]; omega)) (by first | omega | (simp [st2]; done) | (simp [st2]; omega)) (fun b15 => ?_) (fun b15 => ?_)
      · refine g_lload_n rfl dX8_signOf_23 ?_
        refine g_lconst rfl dX8_signOf_24 ?_
        refine g_lge (t := 33) dX8_signOf_25 dX8_signOf_26 (by decide) (by first | omega | (simp [st2]; done) | (simp [st2]; omega)) (by first | omega | (simp [st2]; done) | (simp [st2]; omega)) (fun b25 => ?_) (fun b25 => ?_)
        · refine g_iconst dX8_signOf_33 ?_
          refine g_ireturn rfl dX8_signOf_34 ?_
          refine kE hk ?_
          repeat' split
          all_goals omega
        · refine g_iconst dX8_signOf_29 ?_
          refine g_goto (t := 34) dX8_signOf_30 (by decide) ?_
          refine g_ireturn rfl dX8_signOf_34 ?_
          refine kE hk ?_
          repeat' split
          all_goals omega
      · refine g_iconst dX8_signOf_19 ?_
        refine g_goto (t := 34) dX8_signOf_20 (by decide) ?_
        refine g_ireturn rfl dX8_signOf_34 ?_
        refine kE hk ?_
        repeat' split
        all_goals omega
theorem ct_X7_isWithin {l : Launch} {g : Geo} {X : Mm} {K : AV → Mm → Prop} {a b : Int} (ha : -4611686018427387904 ≤ a ∧ a ≤ 4611686018427387904) (hb : 0 ≤ b ∧ b < 2147483648) (hk : K (vI (if -b ≤ a ∧ a ≤ b then 1 else 0)) X) : Ct l g mX7_isWithin [vJ a, vI b] X K := by
  refine enter (by decide) (Nat.le_of_ble_eq_true rfl) (fun κ => ?_)
  refine g_lload_n rfl dX7_isWithin_0 ?_
  refine g_iload_n rfl dX7_isWithin_1 ?_
  refine g_ineg dX7_isWithin_2 ?_
  refine g_i2l (by first | omega | (simp [st2]; done) | (simp [st2]; omega)) dX7_isWithin_3 ?_
  refine g_llt (t := 19) dX7_isWithin_4 dX7_isWithin_5 (by decide) (by first | omega | (simp [st2]; done) | (simp [st2]; omega)) (by first | omega | (simp [st2]; done) | (simp [st2]; omega)) (fun b4 => ?_) (fun b4 => ?_)
  · refine g_iconst dX7_isWithin_19 ?_
    refine g_zreturn rfl (by omega) dX7_isWithin_20 ?_
    refine kE hk ?_
    split <;> omega
  · refine g_lload_n rfl dX7_isWithin_8 ?_
    refine g_iload_n rfl dX7_isWithin_9 ?_
    refine g_i2l (by first | omega | (simp [st2]; done) | (simp [st2]; omega)) dX7_isWithin_10 ?_
    refine g_lgt (t := 19) dX7_isWithin_11 dX7_isWithin_12 (by decide) (by first | omega | (simp [st2]; done) | (simp [st2]; omega)) (by first | omega | (simp [st2]; done) | (simp [st2]; omega)) (fun b11 => ?_) (fun b11 => ?_)
    · refine g_iconst dX7_isWithin_19 ?_
      refine g_zreturn rfl (by omega) dX7_isWithin_20 ?_
      refine kE hk ?_
      split <;> omega
    · refine g_iconst dX7_isWithin_15 ?_
      refine g_goto (t := 20) dX7_isWithin_16 (by decide) ?_
      refine g_zreturn rfl (by omega) dX7_isWithin_20 ?_
      refine kE hk ?_
      split <;> omega
theorem ct_X8_isIn {l : Launch} {g : Geo} {X : Mm} {K : AV → Mm → Prop} {a b : Int} (ha : -4611686018427387904 ≤ a ∧ a ≤ 4611686018427387904) (hb : 0 ≤ b ∧ b < 2147483648) (hk : K (vI (if -b ≤ a ∧ a ≤ b then 1 else 0)) X) : Ct l g mX8_isIn [vJ a, vJ b] X K := by
  refine enter (by decide) (Nat.le_of_ble_eq_true rfl) (fun κ => ?_)
  refine g_lload_n rfl dX8_isIn_0 ?_
  refine g_lload_n rfl dX8_isIn_1 ?_
  refine g_lneg dX8_isIn_2 ?_
  refine g_llt (t := 17) dX8_isIn_3 dX8_isIn_4 (by decide) (by first | omega | (simp [st2]; done) | (simp [st2]; omega)) (by first | omega | (simp [st2]; done) | (simp [st2]; omega)) (fun b3 => ?_) (fun b3 => ?_)
  · refine g_iconst dX8_isIn_17 ?_
    refine g_zreturn rfl (by omega) dX8_isIn_18 ?_
    refine kE hk ?_
    split <;> omega
  · refine g_lload_n rfl dX8_isIn_7 ?_
    refine g_lload_n rfl dX8_isIn_8 ?_
    refine g_lgt (t := 17) dX8_isIn_9 dX8_isIn_10 (by decide) (by first | omega | (simp [st2]; done) | (simp [st2]; omega)) (by first | omega | (simp [st2]; done) | (simp [st2]; omega)) (fun b9 => ?_) (fun b9 => ?_)
    · refine g_iconst dX8_isIn_17 ?_
      refine g_zreturn rfl (by omega) dX8_isIn_18 ?_
      refine kE hk ?_
      split <;> omega
    · refine g_iconst dX8_isIn_13 ?_
      refine g_goto (t := 18) dX8_isIn_14 (by decide) ?_
      refine g_zreturn rfl (by omega) dX8_isIn_18 ?_
      refine kE hk ?_
      split <;> omega
theorem ct_X8_isPoint {l : Launch} {g : Geo} {X : Mm} {K : AV → Mm → Prop} {a b : Int} (ha : -4611686018427387904 ≤ a ∧ a ≤ 4611686018427387904) (hb : -4611686018427387904 ≤ b ∧ b ≤ 4611686018427387904) (hk : K (vI (if (-536870912 ≤ a ∧ a ≤ 536870912) ∧ (-536870912 ≤ b ∧ b ≤ 536870912) then 1 else 0)) X) : Ct l g mX8_isPoint [vJ a, vJ b] X K := by
  refine enter (by decide) (Nat.le_of_ble_eq_true rfl) (fun κ => ?_)
  refine g_lload_n rfl dX8_isPoint_0 ?_
  refine g_ldc2 (n := (536870912)) kc_RX8_149 dX8_isPoint_1 ?_
  refine g_cs2 (M2 := mX8_isIn) dX8_isPoint_4 ml_RX8_112 kX8_isIn rfl (by decide) (by unfold Rm; decide) (Nat.le_of_ble_eq_true rfl) (ct_X8_isIn (by omega) (by omega) ?_)
  refine g_if_eq (t := 24) dX8_isPoint_7 (by decide) (by first | omega | (simp [st2]; done) | (simp [st2]; omega)) (fun b7 => ?_) (fun b7 => ?_)
  · refine g_iconst dX8_isPoint_24 ?_
    refine g_zreturn rfl (by omega) dX8_isPoint_25 ?_
    refine kE hk ?_
    split <;> omega
  · refine g_lload_n rfl dX8_isPoint_10 ?_
    refine g_ldc2 (n := (536870912)) kc_RX8_149 dX8_isPoint_11 ?_
    refine g_cs2 (M2 := mX8_isIn) dX8_isPoint_14 ml_RX8_112 kX8_isIn rfl (by decide) (by unfold Rm; decide) (Nat.le_of_ble_eq_true rfl) (ct_X8_isIn (by omega) (by omega) ?_)
    refine g_if_eq (t := 24) dX8_isPoint_17 (by decide) (by first | omega | (simp [st2]; done) | (simp [st2]; omega)) (fun b17 => ?_) (fun b17 => ?_)
    · refine g_iconst dX8_isPoint_24 ?_
      refine g_zreturn rfl (by omega) dX8_isPoint_25 ?_
      refine kE hk ?_
      split <;> omega
    · refine g_iconst dX8_isPoint_20 ?_
      refine g_goto (t := 25) dX8_isPoint_21 (by decide) ?_
      refine g_zreturn rfl (by omega) dX8_isPoint_25 ?_
      refine kE hk ?_
      split <;> omega
theorem ct_X7_canBe {l : Launch} {g : Geo} {X : Mm} {K : AV → Mm → Prop} {a b m : Int} (h0 : isRoot (X 0 0)) (ha : -2147483648 ≤ a ∧ a < 2147483648) (hb : -2147483648 ≤ b ∧ b < 2147483648) (hm : 0 ≤ m ∧ m < 2147483648) (hk : K (vI (if (-m ≤ a ∧ a ≤ m) ∧ (-m ≤ b ∧ b ≤ m) ∧ (X 0 0 ≠ 0 ∨ b = 0) then 1 else 0)) X) : Ct l g mX7_canBe [vR 0, vI a, vI b, vI m] X K := by
  refine enter (by decide) (Nat.le_of_ble_eq_true rfl) (fun κ => ?_)
  unfold isRoot at h0
  refine g_iload_n rfl dX7_canBe_0 ?_
  refine g_i2l (by first | omega | (simp [st2]; done) | (simp [st2]; omega)) dX7_canBe_1 ?_
  refine g_iload_n rfl dX7_canBe_2 ?_
  refine g_cs2 (M2 := mX7_isWithin) dX7_canBe_3 ml_RX7_225 kX7_isWithin rfl (by decide) (by unfold Rm; decide) (Nat.le_of_ble_eq_true rfl) (ct_X7_isWithin (by omega) (by omega) ?_)
  refine g_if_eq (t := 33) dX7_canBe_6 (by decide) (by first | omega | (simp [st2]; done) | (simp [st2]; omega)) (fun b6 => ?_) (fun b6 => ?_)
  · refine g_iconst dX7_canBe_33 ?_
    refine g_zreturn rfl (by omega) dX7_canBe_34 ?_
    refine kE hk ?_
    split <;> omega
  · refine g_iload_n rfl dX7_canBe_9 ?_
    refine g_i2l (by first | omega | (simp [st2]; done) | (simp [st2]; omega)) dX7_canBe_10 ?_
    refine g_iload_n rfl dX7_canBe_11 ?_
    refine g_cs2 (M2 := mX7_isWithin) dX7_canBe_12 ml_RX7_225 kX7_isWithin rfl (by decide) (by unfold Rm; decide) (Nat.le_of_ble_eq_true rfl) (ct_X7_isWithin (by omega) (by omega) ?_)
    refine g_if_eq (t := 33) dX7_canBe_15 (by decide) (by first | omega | (simp [st2]; done) | (simp [st2]; omega)) (fun b15 => ?_) (fun b15 => ?_)
    · refine g_iconst dX7_canBe_33 ?_
      refine g_zreturn rfl (by omega) dX7_canBe_34 ?_
      refine kE hk ?_
      split <;> omega
    · refine g_aload_n rfl dX7_canBe_18 ?_
      refine gf_X7_7 rfl (by first | rfl | assumption) dX7_canBe_19 ?_
      refine g_if_ne (t := 29) dX7_canBe_22 (by decide) (by first | omega | (simp [st2]; done) | (simp [st2]; omega)) (fun b22 => ?_) (fun b22 => ?_)
      · refine g_iconst dX7_canBe_29 ?_
        refine g_goto (t := 34) dX7_canBe_30 (by decide) ?_
        refine g_zreturn rfl (by omega) dX7_canBe_34 ?_
        refine kE hk ?_
        split <;> omega
      · refine g_iload_n rfl dX7_canBe_25 ?_
        refine g_if_ne (t := 33) dX7_canBe_26 (by decide) (by first | omega | (simp [st2]; done) | (simp [st2]; omega)) (fun b26 => ?_) (fun b26 => ?_)
        · refine g_iconst dX7_canBe_33 ?_
          refine g_zreturn rfl (by omega) dX7_canBe_34 ?_
          refine kE hk ?_
          split <;> omega
        · refine g_iconst dX7_canBe_29 ?_
          refine g_goto (t := 34) dX7_canBe_30 (by decide) ?_
          refine g_zreturn rfl (by omega) dX7_canBe_34 ?_
          refine kE hk ?_
          split <;> omega
