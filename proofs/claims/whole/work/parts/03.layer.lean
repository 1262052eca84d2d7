/-! THE FLAT MEMORY. Both objects and all that hangs on them are 70 cells, which never change their places: cell 0 the SpanBench, 44 the reference; what a cell's slot k holds is a whole number X c k (an int, a boolean or a long of the machine is that number, cut to its width); references never change. -/
abbrev AV : Type := Int ⊕ (Int ⊕ Nat)
abbrev vI (a : Int) : AV := .inl a
abbrev vJ (a : Int) : AV := .inr (.inl a)
abbrev vR (c : Nat) : AV := .inr (.inr c)
abbrev Mm : Type := Nat → Nat → Int
abbrev Geo : Type := (Nat → Nat) × ClassId × ClassId × ClassId × va_G
def cv (g : Geo) (v : AV) : Value := match v with
  | .inl a => .int (Int32.ofInt a)
  | .inr (.inl a) => .long (Int64.ofInt a)
  | .inr (.inr c) => .ref (g.1 c)
def cat (v : AV) : Nat := match v with
  | .inl _ => 1
  | .inr (.inl _) => 2
  | .inr (.inr _) => 1
theorem cv_cat (g : Geo) (v : AV) : (cv g v).category = cat v := by
  rcases v with a | a | a <;> rfl
def LK : List (Nat × Nat) := [(7, 0), (4, 0), (9, 8), (9, 8), (9, 8), (3, 0), (9, 8), (9, 8), (9, 8), (9, 8), (10, 64), (3, 0), (9, 8), (9, 8), (9, 8), (9, 8), (10, 64), (6, 0), (9, 8), (10, 9), (10, 9), (10, 8), (10, 8), (6, 0), (9, 8), (10, 9), (10, 9), (10, 8), (10, 8), (5, 0), (5, 0), (1, 0), (9, 8), (9, 8), (9, 8), (9, 2000), (9, 2000), (2, 0), (11, 720), (9, 720), (9, 6), (9, 6), (0, 0), (9, 16), (8, 0), (9, 8), (9, 8), (9, 8), (10, 8), (10, 8), (9, 8), (9, 8), (10, 64), (10, 8), (10, 8), (9, 8), (9, 8), (10, 64), (9, 2000), (9, 2000), (9, 2000), (9, 2000), (9, 2000), (11, 2000), (10, 80), (10, 80), (9, 800), (9, 8), (9, 8), (9, 16)]
def kd (i : Nat) : Nat := (LK.getD i (12, 0)).1
def ln (i : Nat) : Nat := (LK.getD i (12, 0)).2
theorem kd_lt {i k : Nat} (h : kd i = k) (hk : k < 12) : i < 70 := by
  rcases Nat.lt_or_ge i 70 with q | q
  · exact q
  · exfalso
    have e : LK[i]? = none := List.getElem?_eq_none (by rw [show LK.length = 70 from rfl]; exact q)
    have h2 : kd i = 12 := by unfold kd; rw [List.getD_eq_getElem?_getD, e]; rfl
    omega
def cty (ci : Nat) : Nat → FieldType := match ci with
  | 0 => tyX0 | 1 => tyX1 | 2 => tyX2 | 3 => tyX3 | 4 => tyX4 | 5 => tyX5 | 6 => tyX6 | 7 => tyX7 | _ => tyX8
def cN (ci : Nat) : Nat := match ci with
  | 0 => 2 | 1 => 6 | 2 => 6 | 3 => 9 | 4 => 4 | 5 => 3 | 6 => 7 | 7 => 11 | _ => 39
def rfo (ci k : Nat) : Nat := (match ci with
  | 0 => [0, 1]
  | 1 => [0, 1, 2, 3, 4, 5]
  | 2 => [0, 0, 1, 2, 3, 4]
  | 3 => [0, 0, 0, 0, 1, 2, 3, 4, 5]
  | 4 => [0, 1, 2, 3]
  | 5 => [0, 0, 0]
  | 6 => [0, 0, 1, 2, 3, 4, 5]
  | 7 => [0, 1, 5, 11, 17, 23, 29, 30, 31, 37, 42]
  | _ => [0, 1, 2, 0, 3, 0, 4, 5, 6, 7, 8, 0, 0, 0, 0, 0, 0, 0, 0, 0, 9, 10, 11, 12, 13, 0, 14, 15, 16, 17, 18, 19, 20, 21, 22, 0, 23, 24, 25]
  ).getD k 0
def fv (g : Geo) (i ci k : Nat) (x : Nat → Int) : Value := match cty ci k with
  | .int => .int (Int32.ofInt (x k))
  | .boolean => .int (Int32.ofInt (x k))
  | .long => .long (Int64.ofInt (x k))
  | _ => .ref (g.1 (i + rfo ci k))
def fl (g : Geo) (i ci : Nat) (x : Nat → Int) : List Value := (List.range (cN ci)).map (fun k => fv g i ci k x)
def ce (g : Geo) (i : Nat) (x : Nat → Int) : va_E :=
  if kd i = 9 then .inl (g.2.1, ln i, .inl (fun j => Int32.ofInt (x j)))
  else if kd i = 10 then .inl (g.2.2.1, ln i, .inr (.inl (fun j => Int64.ofInt (x j))))
  else if kd i = 11 then .inl (g.2.2.2.1, ln i, .inl (fun j => Int32.ofInt (x j)))
  else .inr (kd i, fl g i (kd i) x)
def wl (g : Geo) (X : Mm) : va_W := (List.range 70).map (fun i => (g.1 i, ce g i (X i)))
def tys (g : Geo) : List (ClassId × FieldType) := [(g.2.1, .int), (g.2.2.1, .long), (g.2.2.2.1, .boolean)]
def AA (g : Geo) (sz q : Nat) : Prop := (∃ i, i < 70 ∧ q = g.1 i) ∨ sz ≤ q
def GI (g : Geo) : Prop := ∀ i j, i < 70 → j < 70 → g.1 i = g.1 j → i = j
def nw1 : Cond := .methodLinkNest RX6 45 yX7_signOf RX7
def nw2 : Cond := .methodLinkNest RX6 71 yX7_isWithin RX7
def nw3 : Cond := .methodLinkNest RX3 53 yX7_signOf RX7
def nw4 : Cond := .methodLinkNest RX3 76 yX7_isWithin RX7
def NW (U : State) : Prop := va_Nw nw1 U ∧ va_Nw nw2 U ∧ va_Nw nw3 U ∧ va_Nw nw4 U
theorem NW.warm {s U : State} (hW : s.WarmedH U.vm) (h : NW s) : NW U := ⟨va_Nw.warmM hW h.1, va_Nw.warmM hW h.2.1, va_Nw.warmM hW h.2.2.1, va_Nw.warmM hW h.2.2.2⟩
theorem NW.same {s U : State} (hW : s.vm = U.vm) (h : NW s) : NW U := ⟨va_tabs rfl hW h.1, va_tabs rfl hW h.2.1, va_tabs rfl hW h.2.2.1, va_tabs rfl hW h.2.2.2⟩
def WU (g : Geo) (X : Mm) (U : State) : Prop := va_P g.2.2.2.2 vwCl (wl g X) U.heap ∧ va_K g.2.2.2.2 vwCl (tys g) U ∧ NW U ∧ GI g
/-- a method: its name, code, locals, what it returns, frames and locals' room below it -/
abbrev Me : Type := MethodName × ByteArray × Nat × Option FieldType × Nat × Nat
def Qc (g : Geo) (rt : Option FieldType) (K : AV → Mm → Prop) (sz : Nat) : Array Value → State → Outcome → State → Prop :=
  if rt = none then va_Qv (fun u : Mm => K (vI 0) u) (fun u t => WU g u t) (AA g sz)
  else if rt = some .long then va_Ql (fun r (u : Int × Mm) => r = Int64.ofInt u.1 ∧ K (vJ u.1) u.2) (fun u t => WU g u.2 t) (AA g sz)
  else va_Qi (fun r (u : Int × Mm) => r = Int32.ofInt u.1 ∧ K (vI u.1) u.2) (fun u t => WU g u.2 t) (AA g sz)
def rM (M : Me) (kc ks : Nat) : Room := { frames := M.2.2.2.2.1, cells := kc, slots := ks, locals := M.2.2.2.2.2 }
/-- A CONTRACT: called with the numbers as over the memory X, the method comes back with an answer and a memory of which K holds -/
def Ct (l : Launch) (g : Geo) (M : Me) (as : List AV) (X : Mm) (K : AV → Mm → Prop) : Prop :=
  ∀ sz : Nat, Met l M.1 (.code M.1 M.2.1 M.2.2.1 M.2.2.2.1 :: TB) (rM M 0 0) (va_Pc (as.map (cv g)) (fun U => U.heap.size = sz ∧ WU g X U)) (Qc g M.2.2.2.1 K sz) 0 0 (AA g sz)
abbrev Kx : Type := Program × Env × State × MethodId × Array Value × List Frame × Method × Code × (Nat → Prop) × (State → Prop) × Nat × Nat
abbrev Lv : Type := List (Nat × AV)
def cvl (g : Geo) (lv : Lv) : List (Nat × Value) := lv.map (fun q => (q.1, cv g q.2))
def sto1 (k : Nat) (v : AV) (lv : Lv) : Lv := (k, v) :: lv.filter (fun q => !(q.1 == k) && !(q.1 + 1 == k && cat q.2 == 2))
def sto2 (k : Nat) (v : AV) (lv : Lv) : Lv := (k, v) :: lv.filter (fun q => !(q.1 == k) && (!(q.1 == k + 1) && !(q.1 + 1 == k && cat q.2 == 2)))
theorem sto1_cv (g : Geo) (k : Nat) (v : AV) (lv : Lv) : (k, cv g v) :: (cvl g lv).filter (fun q => !(q.1 == k) && !(q.1 + 1 == k && q.2.category == 2)) = cvl g (sto1 k v lv) := by
  unfold sto1 cvl
  simp only [List.map_cons, List.filter_map, Function.comp_def, cv_cat]
theorem sto2_cv (g : Geo) (k : Nat) (v : AV) (lv : Lv) : (k, cv g v) :: (cvl g lv).filter (fun q => !(q.1 == k) && (!(q.1 == k + 1) && !(q.1 + 1 == k && q.2.category == 2))) = cvl g (sto2 k v lv) := by
  unfold sto2 cvl
  simp only [List.map_cons, List.filter_map, Function.comp_def, cv_cat]
theorem lk_mem {lv : Lv} {k : Nat} {v : AV} (h : lv.lookup k = some v) : (k, v) ∈ lv := by
  induction lv with
  | nil => simp [List.lookup] at h
  | cons q r ih =>
    obtain ⟨i, w⟩ := q
    rw [List.lookup_cons] at h
    cases e : (k == i) with
    | true =>
      rw [e] at h
      have e1 : k = i := by simpa using e
      cases h
      rw [e1]
      exact List.mem_cons_self
    | false =>
      rw [e] at h
      exact List.mem_cons_of_mem _ (ih h)
theorem lk_at {g : Geo} {ls : Array Slot} {nL : Nat} {lv : Lv} {k : Nat} {v : AV} (hl : lv_has ls nL (cvl g lv)) (h : lv.lookup k = some v) : ls[k]? = some (.val (cv g v)) := hl.2.2 (k, cv g v) (List.mem_map.mpr ⟨(k, v), lk_mem h, rfl⟩)
/-- what holds of the machine all along a method's run -/
def Ok (l : Launch) (g : Geo) (M : Me) (κ : Kx) (K : AV → Mm → Prop) : Prop := match κ with
  | (p, e, s, m, args, below, meth, c, A, Q, kc, ks) =>
    p.tables.exec = Jvm.exec ∧ c.code = M.2.1 ∧ c.maxLocals = M.2.2.1 ∧ s.vm.findClass M.1.cls = some m.cls ∧ (∀ w ∈ TB, w.before args s = true) ∧ va_K g.2.2.2.2 vwCl (tys g) s ∧ NW s ∧ GI g ∧ (∀ q, AA g s.heap.size q → A q) ∧
    (∀ (pc : Nat) (ls : Array Slot) (H : Heap) (locs : List Loc) (X : Mm) (v : Int), decode M.2.1 pc = .ok (.ireturn, 1) → (M.2.2.2.1 = some .int ∨ (M.2.2.2.1 = some .boolean ∧ (v = 0 ∨ v = 1))) → K (vI v) X → va_P g.2.2.2.2 vwCl (wl g X) H → va_S A s.heap H locs → W p l e (rM M kc ks) s m args below meth c H locs kc ks Q (F0 m pc ls [.int (Int32.ofInt v)])) ∧
    (∀ (pc : Nat) (ls : Array Slot) (H : Heap) (locs : List Loc) (X : Mm) (v : Int), decode M.2.1 pc = .ok (.lreturn, 1) → M.2.2.2.1 = some .long → K (vJ v) X → va_P g.2.2.2.2 vwCl (wl g X) H → va_S A s.heap H locs → W p l e (rM M kc ks) s m args below meth c H locs kc ks Q (F0 m pc ls [.long (Int64.ofInt v)])) ∧
    (∀ (pc : Nat) (ls : Array Slot) (H : Heap) (locs : List Loc) (X : Mm), decode M.2.1 pc = .ok (.return_, 1) → M.2.2.2.1 = none → K (vI 0) X → va_P g.2.2.2.2 vwCl (wl g X) H → va_S A s.heap H locs → W p l e (rM M kc ks) s m args below meth c H locs kc ks Q (F0 m pc ls []))
/-- THE JUDGEMENT: at pc with these locals, this stack, this memory the run comes to its end with K -/
def G (l : Launch) (g : Geo) (M : Me) (κ : Kx) (K : AV → Mm → Prop) (pc : Nat) (lv : Lv) (st : List AV) (X : Mm) : Prop := match κ with
  | (p, e, s, m, args, below, meth, c, A, Q, kc, ks) =>
    Ok l g M (p, e, s, m, args, below, meth, c, A, Q, kc, ks) K → ∀ (H : Heap) (locs : List Loc) (ls : Array Slot), va_P g.2.2.2.2 vwCl (wl g X) H → va_S A s.heap H locs → lv_has ls M.2.2.1 (cvl g lv) → W p l e (rM M kc ks) s m args below meth c H locs kc ks Q (F0 m pc ls (st.map (cv g)))
-- the world's list
theorem wl_at (g : Geo) (X : Mm) {i : Nat} (hi : i < 70) : (wl g X)[i]? = some (g.1 i, ce g i (X i)) := by
  unfold wl
  rw [List.getElem?_map, List.getElem?_range hi]
  rfl
theorem wl_fst {g : Geo} {X : Mm} {i : Nat} {q : Nat × va_E} (h : (wl g X)[i]? = some q) : i < 70 ∧ q.1 = g.1 i := by
  have hi : i < 70 := by
    have h1 := (List.getElem?_eq_some_iff.mp h).1
    simpa [wl] using h1
  rw [wl_at g X hi] at h
  cases h
  exact ⟨hi, rfl⟩
theorem wl_D {g : Geo} (hI : GI g) (X : Mm) {A : Nat → Prop} (hA : ∀ i, i < 70 → A (g.1 i)) : va_D A (wl g X) := by
  refine ⟨fun i j p q hi hj e => ?_, fun k q hk => ?_⟩
  · obtain ⟨h1, h2⟩ := wl_fst hi
    obtain ⟨h3, h4⟩ := wl_fst hj
    exact hI i j h1 h3 (by rw [← h2, ← h4]; exact e)
  · obtain ⟨h1, h2⟩ := wl_fst hk
    rw [h2]
    exact hA k h1
/-- one slot is another number -/
def st2 (X : Mm) (a j : Nat) (v : Int) : Mm := fun c k => if c = a then (if k = j then v else X a k) else X c k
theorem st2_at (X : Mm) (a j : Nat) (v : Int) : st2 X a j v a = fun k => if k = j then v else X a k := by
  funext k
  simp [st2]
theorem st2_ne (X : Mm) {a c : Nat} (j : Nat) (v : Int) (h : c ≠ a) : st2 X a j v c = X c := by
  funext k
  simp [st2, h]
theorem wl_set (g : Geo) (X : Mm) {a j : Nat} (v : Int) (ha : a < 70) {q : va_E} (hq : q = ce g a (fun k => if k = j then v else X a k)) : (wl g X).set a (g.1 a, q) = wl g (st2 X a j v) := by
  subst hq
  apply List.ext_getElem?
  intro i
  rcases Nat.lt_or_ge i 70 with hi | hi
  · rw [wl_at g _ hi]
    by_cases e : i = a
    · subst e
      rw [List.getElem?_set_self (by simp [wl]; exact ha), st2_at]
    · rw [List.getElem?_set_ne (fun q => e q.symm), wl_at g X hi, st2_ne X j v e]
  · rw [List.getElem?_eq_none (by simp [wl]; exact hi), List.getElem?_eq_none (by simp [wl]; exact hi)]
theorem ce_i {g : Geo} {i : Nat} {x : Nat → Int} (h : kd i = 9) : ce g i x = .inl (g.2.1, ln i, .inl (fun j => Int32.ofInt (x j))) := by
  unfold ce; rw [if_pos h]
theorem ce_j {g : Geo} {i : Nat} {x : Nat → Int} (h : kd i = 10) : ce g i x = .inl (g.2.2.1, ln i, .inr (.inl (fun j => Int64.ofInt (x j)))) := by
  unfold ce; rw [if_neg (by omega), if_pos h]
theorem ce_z {g : Geo} {i : Nat} {x : Nat → Int} (h : kd i = 11) : ce g i x = .inl (g.2.2.2.1, ln i, .inl (fun j => Int32.ofInt (x j))) := by
  unfold ce; rw [if_neg (by omega), if_neg (by omega), if_pos h]
theorem ce_o {g : Geo} {i ci : Nat} {x : Nat → Int} (h : kd i = ci) (h9 : ci < 9) : ce g i x = .inr (ci, fl g i ci x) := by
  subst h; unfold ce; rw [if_neg (by omega), if_neg (by omega), if_neg (by omega)]
theorem fl_at (g : Geo) (i ci : Nat) (x : Nat → Int) {k : Nat} (hk : k < cN ci) : (fl g i ci x)[k]? = some (fv g i ci k x) := by
  unfold fl
  rw [List.getElem?_map, List.getElem?_range hk]
  rfl
theorem fl_set (g : Geo) (i ci : Nat) (x : Nat → Int) {k : Nat} (v : Int) (hk : k < cN ci) : (fl g i ci x).set k (fv g i ci k (fun j => if j = k then v else x j)) = fl g i ci (fun j => if j = k then v else x j) := by
  apply List.ext_getElem?
  intro j
  rcases Nat.lt_or_ge j (cN ci) with hj | hj
  · rw [fl_at g i ci _ hj]
    by_cases e : j = k
    · subst e
      rw [List.getElem?_set_self (by simp [fl]; exact hj)]
    · rw [List.getElem?_set_ne (fun q => e q.symm), fl_at g i ci x hj]
      congr 1
      unfold fv
      simp only [if_neg e]
  · rw [List.getElem?_eq_none (by simp [fl]; exact hj), List.getElem?_eq_none (by simp [fl]; exact hj)]
-- numbers
theorem i32_le {a : Int} (h : -2147483648 ≤ a ∧ a < 2147483648) : (Int32.ofInt a).toInt = a := Int32.toInt_ofInt_of_le (by omega) (by omega)
theorem i64_le {a : Int} (h : -9223372036854775808 ≤ a ∧ a < 9223372036854775808) : (Int64.ofInt a).toInt = a := Int64.toInt_ofInt_of_le (by omega) (by omega)
theorem i32_ix {j : Nat} (h : j < 2147483648) : (Int32.ofInt (j : Int)).toNatClampNeg = j := by
  rw [Int32.ofInt_eq_ofNat]; exact nI_clamp (by omega)
theorem i32_in {j n : Nat} (h : j < n) (hn : n < 2147483648) : vp_in (Int32.ofInt (j : Int)) n := by
  rw [Int32.ofInt_eq_ofNat]; exact vp_in_nI h (by omega)
theorem i32_lt {a b : Int} (ha : -2147483648 ≤ a ∧ a < 2147483648) (hb : -2147483648 ≤ b ∧ b < 2147483648) : Int32.ofInt a < Int32.ofInt b ↔ a < b := by
  rw [Int32.lt_iff_toInt_lt, i32_le ha, i32_le hb]
theorem i32_ile {a b : Int} (ha : -2147483648 ≤ a ∧ a < 2147483648) (hb : -2147483648 ≤ b ∧ b < 2147483648) : Int32.ofInt a ≤ Int32.ofInt b ↔ a ≤ b := by
  rw [Int32.le_iff_toInt_le, i32_le ha, i32_le hb]
theorem i32_eq {a b : Int} (ha : -2147483648 ≤ a ∧ a < 2147483648) (hb : -2147483648 ≤ b ∧ b < 2147483648) : Int32.ofInt a = Int32.ofInt b ↔ a = b := by
  rw [← Int32.toInt_inj, i32_le ha, i32_le hb]
theorem i32_0 : (0 : Int32) = Int32.ofInt 0 := rfl
theorem lg_lt {a b : Int} (ha : -9223372036854775808 ≤ a ∧ a < 9223372036854775808) (hb : -9223372036854775808 ≤ b ∧ b < 9223372036854775808) : lg_cmp (Int64.ofInt a) (Int64.ofInt b) = Int32.ofInt (if b < a then 1 else if a = b then 0 else -1) := by
  unfold lg_cmp
  have h1 : (Int64.ofInt a > Int64.ofInt b) ↔ b < a := by
    rw [gt_iff_lt, Int64.lt_iff_toInt_lt, i64_le ha, i64_le hb]
  have h2 : (Int64.ofInt a = Int64.ofInt b) ↔ a = b := by
    rw [← Int64.toInt_inj, i64_le ha, i64_le hb]
  by_cases c1 : b < a
  · rw [if_pos (h1.mpr c1), if_pos c1]; rfl
  · rw [if_neg (fun q => c1 (h1.mp q)), if_neg c1]
    by_cases c2 : a = b
    · rw [if_pos (h2.mpr c2), if_pos c2]; rfl
    · rw [if_neg (fun q => c2 (h2.mp q)), if_neg c2]; rfl
theorem g_iconst {l : Launch} {g : Geo} {M : Me} {κ : Kx} {K : AV → Mm → Prop} {pc : Nat} {lv : Lv} {X : Mm} {r : List AV} {n : Int} (hd : decode M.2.1 pc = .ok (.iconst n, 1)) (k : G l g M κ K (pc + 1) lv (vI n :: r) X) : G l g M κ K pc lv (r) X := by
  obtain ⟨p, e, s, m, args, below, meth, c, A, Q, kc, ks⟩ := κ
  intro O H locs ls hP hS hl
  exact lv_iconst O.1 O.2.1 hd rfl (k O H locs ls hP hS hl)
theorem g_bipush {l : Launch} {g : Geo} {M : Me} {κ : Kx} {K : AV → Mm → Prop} {pc : Nat} {lv : Lv} {X : Mm} {r : List AV} {n : Int} (hn : -128 ≤ n ∧ n < 128) (hd : decode M.2.1 pc = .ok (.bipush n, 2)) (k : G l g M κ K (pc + 2) lv (vI n :: r) X) : G l g M κ K pc lv (r) X := by
  obtain ⟨p, e, s, m, args, below, meth, c, A, Q, kc, ks⟩ := κ
  intro O H locs ls hP hS hl
  refine lv_bipush (v := Int32.ofInt n) O.1 O.2.1 hd ?_ (k O H locs ls hP hS hl)
  apply Int32.toInt_inj.mp
  rw [i32_le (by omega), Int8.toInt_toInt32, Int8.toInt_ofInt_of_le (by omega) (by omega)]
theorem g_sipush {l : Launch} {g : Geo} {M : Me} {κ : Kx} {K : AV → Mm → Prop} {pc : Nat} {lv : Lv} {X : Mm} {r : List AV} {n : Int} (hn : -32768 ≤ n ∧ n < 32768) (hd : decode M.2.1 pc = .ok (.sipush n, 3)) (k : G l g M κ K (pc + 3) lv (vI n :: r) X) : G l g M κ K pc lv (r) X := by
  obtain ⟨p, e, s, m, args, below, meth, c, A, Q, kc, ks⟩ := κ
  intro O H locs ls hP hS hl
  refine lv_sipush (v := Int32.ofInt n) O.1 O.2.1 hd ?_ (k O H locs ls hP hS hl)
  apply Int32.toInt_inj.mp
  rw [i32_le (by omega), Int16.toInt_toInt32, Int16.toInt_ofInt_of_le (by omega) (by omega)]
theorem g_lconst {l : Launch} {g : Geo} {M : Me} {κ : Kx} {K : AV → Mm → Prop} {pc : Nat} {lv : Lv} {X : Mm} {r : List AV} {n : Fin 2} {i : Int} (hn : ((n : Nat) : Int) = i) (hd : decode M.2.1 pc = .ok (.lconst n, 1)) (k : G l g M κ K (pc + 1) lv (vJ i :: r) X) : G l g M κ K pc lv (r) X := by
  obtain ⟨p, e, s, m, args, below, meth, c, A, Q, kc, ks⟩ := κ
  intro O H locs ls hP hS hl
  subst hn
  exact lv_lconst O.1 O.2.1 hd (Int64.ofInt_eq_ofNat).symm (k O H locs ls hP hS hl)
theorem g_ldc {l : Launch} {g : Geo} {M : Me} {κ : Kx} {K : AV → Mm → Prop} {pc : Nat} {lv : Lv} {X : Mm} {r : List AV} {i : Nat} {n : Int} (hc : Cond.constant M.1.cls i (Int32.ofInt n) ∈ TB) (hd : decode M.2.1 pc = .ok (.ldc i, 2)) (k : G l g M κ K (pc + 2) lv (vI n :: r) X) : G l g M κ K pc lv (r) X := by
  obtain ⟨p, e, s, m, args, below, meth, c, A, Q, kc, ks⟩ := κ
  intro O H locs ls hP hS hl
  exact lv_ldc O.1 O.2.1 O.2.2.2.1 (O.2.2.2.2.1 _ hc) hd (k O H locs ls hP hS hl)
theorem g_ldc2 {l : Launch} {g : Geo} {M : Me} {κ : Kx} {K : AV → Mm → Prop} {pc : Nat} {lv : Lv} {X : Mm} {r : List AV} {i : Nat} {n : Int} (hc : Cond.constantLong M.1.cls i (Int64.ofInt n) ∈ TB) (hd : decode M.2.1 pc = .ok (.ldc2_w i, 3)) (k : G l g M κ K (pc + 3) lv (vJ n :: r) X) : G l g M κ K pc lv (r) X := by
  obtain ⟨p, e, s, m, args, below, meth, c, A, Q, kc, ks⟩ := κ
  intro O H locs ls hP hS hl
  exact lv_ldc2 O.1 O.2.1 O.2.2.2.1 (O.2.2.2.2.1 _ hc) hd (k O H locs ls hP hS hl)
theorem g_iload_n {l : Launch} {g : Geo} {M : Me} {κ : Kx} {K : AV → Mm → Prop} {pc : Nat} {lv : Lv} {X : Mm} {r : List AV} {n : Int} {i : Fin 4} (h : lv.lookup (i : Nat) = some (vI n)) (hd : decode M.2.1 pc = .ok (.iload_n i, 1)) (k : G l g M κ K (pc + 1) lv (vI n :: r) X) : G l g M κ K pc lv (r) X := by
  obtain ⟨p, e, s, m, args, below, meth, c, A, Q, kc, ks⟩ := κ
  intro O H locs ls hP hS hl
  exact lv_iload_n O.1 O.2.1 hd rfl (lk_at hl h) (k O H locs ls hP hS hl)
theorem g_iload {l : Launch} {g : Geo} {M : Me} {κ : Kx} {K : AV → Mm → Prop} {pc : Nat} {lv : Lv} {X : Mm} {r : List AV} {n : Int} {i : Nat} (h : lv.lookup i = some (vI n)) (hd : decode M.2.1 pc = .ok (.iload i, 2)) (k : G l g M κ K (pc + 2) lv (vI n :: r) X) : G l g M κ K pc lv (r) X := by
  obtain ⟨p, e, s, m, args, below, meth, c, A, Q, kc, ks⟩ := κ
  intro O H locs ls hP hS hl
  exact lv_iload O.1 O.2.1 hd (lk_at hl h) (k O H locs ls hP hS hl)
theorem g_lload_n {l : Launch} {g : Geo} {M : Me} {κ : Kx} {K : AV → Mm → Prop} {pc : Nat} {lv : Lv} {X : Mm} {r : List AV} {n : Int} {i : Fin 4} (h : lv.lookup (i : Nat) = some (vJ n)) (hd : decode M.2.1 pc = .ok (.lload_n i, 1)) (k : G l g M κ K (pc + 1) lv (vJ n :: r) X) : G l g M κ K pc lv (r) X := by
  obtain ⟨p, e, s, m, args, below, meth, c, A, Q, kc, ks⟩ := κ
  intro O H locs ls hP hS hl
  exact lv_lload_n O.1 O.2.1 hd rfl (lk_at hl h) (k O H locs ls hP hS hl)
theorem g_lload {l : Launch} {g : Geo} {M : Me} {κ : Kx} {K : AV → Mm → Prop} {pc : Nat} {lv : Lv} {X : Mm} {r : List AV} {n : Int} {i : Nat} (h : lv.lookup i = some (vJ n)) (hd : decode M.2.1 pc = .ok (.lload i, 2)) (k : G l g M κ K (pc + 2) lv (vJ n :: r) X) : G l g M κ K pc lv (r) X := by
  obtain ⟨p, e, s, m, args, below, meth, c, A, Q, kc, ks⟩ := κ
  intro O H locs ls hP hS hl
  exact lv_lload O.1 O.2.1 hd (lk_at hl h) (k O H locs ls hP hS hl)
theorem g_aload_n {l : Launch} {g : Geo} {M : Me} {κ : Kx} {K : AV → Mm → Prop} {pc : Nat} {lv : Lv} {X : Mm} {r : List AV} {n : Nat} {i : Fin 4} (h : lv.lookup (i : Nat) = some (vR n)) (hd : decode M.2.1 pc = .ok (.aload_n i, 1)) (k : G l g M κ K (pc + 1) lv (vR n :: r) X) : G l g M κ K pc lv (r) X := by
  obtain ⟨p, e, s, m, args, below, meth, c, A, Q, kc, ks⟩ := κ
  intro O H locs ls hP hS hl
  exact lv_aload_n O.1 O.2.1 hd rfl (lk_at hl h) (k O H locs ls hP hS hl)
theorem g_istore_n {l : Launch} {g : Geo} {M : Me} {κ : Kx} {K : AV → Mm → Prop} {pc : Nat} {lv : Lv} {X : Mm} {r : List AV} {n : Int} {i : Fin 4} (hi : (i : Nat) < M.2.2.1) (hd : decode M.2.1 pc = .ok (.istore_n i, 1)) (k : G l g M κ K (pc + 1) (sto1 (i : Nat) (vI n) lv) r X) : G l g M κ K pc lv (vI n :: r) X := by
  obtain ⟨p, e, s, m, args, below, meth, c, A, Q, kc, ks⟩ := κ
  intro O H locs ls hP hS hl
  exact lv_istore_n O.1 O.2.1 hd rfl hl hi (sto1_cv g i (vI n) lv) (fun ls2 hl2 => k O H locs ls2 hP hS hl2)
theorem g_istore {l : Launch} {g : Geo} {M : Me} {κ : Kx} {K : AV → Mm → Prop} {pc : Nat} {lv : Lv} {X : Mm} {r : List AV} {n : Int} {i : Nat} (hi : (i : Nat) < M.2.2.1) (hd : decode M.2.1 pc = .ok (.istore i, 2)) (k : G l g M κ K (pc + 2) (sto1 i (vI n) lv) r X) : G l g M κ K pc lv (vI n :: r) X := by
  obtain ⟨p, e, s, m, args, below, meth, c, A, Q, kc, ks⟩ := κ
  intro O H locs ls hP hS hl
  exact lv_istore O.1 O.2.1 hd hl hi (sto1_cv g i (vI n) lv) (fun ls2 hl2 => k O H locs ls2 hP hS hl2)
theorem g_lstore_n {l : Launch} {g : Geo} {M : Me} {κ : Kx} {K : AV → Mm → Prop} {pc : Nat} {lv : Lv} {X : Mm} {r : List AV} {n : Int} {i : Fin 4} (hi : (i : Nat) + 1 < M.2.2.1) (hd : decode M.2.1 pc = .ok (.lstore_n i, 1)) (k : G l g M κ K (pc + 1) (sto2 (i : Nat) (vJ n) lv) r X) : G l g M κ K pc lv (vJ n :: r) X := by
  obtain ⟨p, e, s, m, args, below, meth, c, A, Q, kc, ks⟩ := κ
  intro O H locs ls hP hS hl
  exact lv_lstore_n O.1 O.2.1 hd rfl hl hi (sto2_cv g i (vJ n) lv) (fun ls2 hl2 => k O H locs ls2 hP hS hl2)
theorem g_lstore {l : Launch} {g : Geo} {M : Me} {κ : Kx} {K : AV → Mm → Prop} {pc : Nat} {lv : Lv} {X : Mm} {r : List AV} {n : Int} {i : Nat} (hi : (i : Nat) + 1 < M.2.2.1) (hd : decode M.2.1 pc = .ok (.lstore i, 2)) (k : G l g M κ K (pc + 2) (sto2 i (vJ n) lv) r X) : G l g M κ K pc lv (vJ n :: r) X := by
  obtain ⟨p, e, s, m, args, below, meth, c, A, Q, kc, ks⟩ := κ
  intro O H locs ls hP hS hl
  exact lv_lstore O.1 O.2.1 hd hl hi (sto2_cv g i (vJ n) lv) (fun ls2 hl2 => k O H locs ls2 hP hS hl2)
theorem g_astore_n {l : Launch} {g : Geo} {M : Me} {κ : Kx} {K : AV → Mm → Prop} {pc : Nat} {lv : Lv} {X : Mm} {r : List AV} {n : Nat} {i : Fin 4} (hi : (i : Nat) < M.2.2.1) (hd : decode M.2.1 pc = .ok (.astore_n i, 1)) (k : G l g M κ K (pc + 1) (sto1 (i : Nat) (vR n) lv) r X) : G l g M κ K pc lv (vR n :: r) X := by
  obtain ⟨p, e, s, m, args, below, meth, c, A, Q, kc, ks⟩ := κ
  intro O H locs ls hP hS hl
  exact lv_astore_n O.1 O.2.1 hd rfl hl hi (sto1_cv g i (vR n) lv) (fun ls2 hl2 => k O H locs ls2 hP hS hl2)
theorem lk_ix {g : Geo} {lv : Lv} {i : Nat} {v : AV} (h : lv.lookup i = some v) : ∃ k : Nat, (cvl g lv)[k]? = some (i, cv g v) := by
  obtain ⟨k, hk, e⟩ := List.getElem_of_mem (lk_mem h)
  refine ⟨k, ?_⟩
  unfold cvl
  rw [List.getElem?_map, List.getElem?_eq_getElem hk, e]
  rfl
theorem g_iinc {l : Launch} {g : Geo} {M : Me} {κ : Kx} {K : AV → Mm → Prop} {pc : Nat} {lv : Lv} {X : Mm} {r : List AV} {i : Nat} {n d : Int} (h : lv.lookup i = some (vI n)) (hi : i < M.2.2.1) (hd : decode M.2.1 pc = .ok (.iinc i d, 3)) (k : G l g M κ K (pc + 3) (sto1 i (vI (n + d)) lv) r X) : G l g M κ K pc lv r X := by
  obtain ⟨p, e, s, m, args, below, meth, c, A, Q, kc, ks⟩ := κ
  intro O H locs ls hP hS hl
  obtain ⟨q, hq⟩ := lk_ix (g := g) h
  exact lv_iinc O.1 O.2.1 hd hl hq (Int32.ofInt_add n d).symm hi (sto1_cv g i (vI (n + d)) lv) (fun ls2 hl2 => k O H locs ls2 hP hS hl2)
theorem g_iadd {l : Launch} {g : Geo} {M : Me} {κ : Kx} {K : AV → Mm → Prop} {pc : Nat} {lv : Lv} {X : Mm} {r : List AV} {a b : Int} (hd : decode M.2.1 pc = .ok (.iadd, 1)) (k : G l g M κ K (pc + 1) lv (vI (a + b) :: r) X) : G l g M κ K pc lv (vI b :: vI a :: r) X := by
  obtain ⟨p, e, s, m, args, below, meth, c, A, Q, kc, ks⟩ := κ
  intro O H locs ls hP hS hl
  refine lv_iadd O.1 O.2.1 hd ?_
  rw [← Int32.ofInt_add]
  exact k O H locs ls hP hS hl
theorem g_isub {l : Launch} {g : Geo} {M : Me} {κ : Kx} {K : AV → Mm → Prop} {pc : Nat} {lv : Lv} {X : Mm} {r : List AV} {a b : Int} (hd : decode M.2.1 pc = .ok (.isub, 1)) (k : G l g M κ K (pc + 1) lv (vI (a - b) :: r) X) : G l g M κ K pc lv (vI b :: vI a :: r) X := by
  obtain ⟨p, e, s, m, args, below, meth, c, A, Q, kc, ks⟩ := κ
  intro O H locs ls hP hS hl
  refine lv_isub O.1 O.2.1 hd ?_
  rw [← Int32.ofInt_sub]
  exact k O H locs ls hP hS hl
theorem g_imul {l : Launch} {g : Geo} {M : Me} {κ : Kx} {K : AV → Mm → Prop} {pc : Nat} {lv : Lv} {X : Mm} {r : List AV} {a b : Int} (hd : decode M.2.1 pc = .ok (.imul, 1)) (k : G l g M κ K (pc + 1) lv (vI (a * b) :: r) X) : G l g M κ K pc lv (vI b :: vI a :: r) X := by
  obtain ⟨p, e, s, m, args, below, meth, c, A, Q, kc, ks⟩ := κ
  intro O H locs ls hP hS hl
  refine lv_imul O.1 O.2.1 hd ?_
  rw [← Int32.ofInt_mul]
  exact k O H locs ls hP hS hl
theorem g_ladd {l : Launch} {g : Geo} {M : Me} {κ : Kx} {K : AV → Mm → Prop} {pc : Nat} {lv : Lv} {X : Mm} {r : List AV} {a b : Int} (hd : decode M.2.1 pc = .ok (.ladd, 1)) (k : G l g M κ K (pc + 1) lv (vJ (a + b) :: r) X) : G l g M κ K pc lv (vJ b :: vJ a :: r) X := by
  obtain ⟨p, e, s, m, args, below, meth, c, A, Q, kc, ks⟩ := κ
  intro O H locs ls hP hS hl
  refine lv_ladd O.1 O.2.1 hd ?_
  rw [← Int64.ofInt_add]
  exact k O H locs ls hP hS hl
theorem g_lsub {l : Launch} {g : Geo} {M : Me} {κ : Kx} {K : AV → Mm → Prop} {pc : Nat} {lv : Lv} {X : Mm} {r : List AV} {a b : Int} (hd : decode M.2.1 pc = .ok (.lsub, 1)) (k : G l g M κ K (pc + 1) lv (vJ (a - b) :: r) X) : G l g M κ K pc lv (vJ b :: vJ a :: r) X := by
  obtain ⟨p, e, s, m, args, below, meth, c, A, Q, kc, ks⟩ := κ
  intro O H locs ls hP hS hl
  refine lv_lsub O.1 O.2.1 hd ?_
  rw [← Int64.ofInt_sub]
  exact k O H locs ls hP hS hl
theorem g_lmul {l : Launch} {g : Geo} {M : Me} {κ : Kx} {K : AV → Mm → Prop} {pc : Nat} {lv : Lv} {X : Mm} {r : List AV} {a b : Int} (hd : decode M.2.1 pc = .ok (.lmul, 1)) (k : G l g M κ K (pc + 1) lv (vJ (a * b) :: r) X) : G l g M κ K pc lv (vJ b :: vJ a :: r) X := by
  obtain ⟨p, e, s, m, args, below, meth, c, A, Q, kc, ks⟩ := κ
  intro O H locs ls hP hS hl
  refine lv_lmul O.1 O.2.1 hd ?_
  rw [← Int64.ofInt_mul]
  exact k O H locs ls hP hS hl
theorem g_ineg {l : Launch} {g : Geo} {M : Me} {κ : Kx} {K : AV → Mm → Prop} {pc : Nat} {lv : Lv} {X : Mm} {r : List AV} {a : Int} (hd : decode M.2.1 pc = .ok (.ineg, 1)) (k : G l g M κ K (pc + 1) lv (vI (-a) :: r) X) : G l g M κ K pc lv (vI a :: r) X := by
  obtain ⟨p, e, s, m, args, below, meth, c, A, Q, kc, ks⟩ := κ
  intro O H locs ls hP hS hl
  refine lv_ineg O.1 O.2.1 hd ?_
  rw [← Int32.ofInt_neg]
  exact k O H locs ls hP hS hl
theorem g_lneg {l : Launch} {g : Geo} {M : Me} {κ : Kx} {K : AV → Mm → Prop} {pc : Nat} {lv : Lv} {X : Mm} {r : List AV} {a : Int} (hd : decode M.2.1 pc = .ok (.lneg, 1)) (k : G l g M κ K (pc + 1) lv (vJ (-a) :: r) X) : G l g M κ K pc lv (vJ a :: r) X := by
  obtain ⟨p, e, s, m, args, below, meth, c, A, Q, kc, ks⟩ := κ
  intro O H locs ls hP hS hl
  refine lv_lneg O.1 O.2.1 hd ?_
  rw [← Int64.ofInt_neg]
  exact k O H locs ls hP hS hl
theorem g_i2l {l : Launch} {g : Geo} {M : Me} {κ : Kx} {K : AV → Mm → Prop} {pc : Nat} {lv : Lv} {X : Mm} {r : List AV} {a : Int} (ha : -2147483648 ≤ a ∧ a < 2147483648) (hd : decode M.2.1 pc = .ok (.i2l, 1)) (k : G l g M κ K (pc + 1) lv (vJ a :: r) X) : G l g M κ K pc lv (vI a :: r) X := by
  obtain ⟨p, e, s, m, args, below, meth, c, A, Q, kc, ks⟩ := κ
  intro O H locs ls hP hS hl
  refine lv_i2l (v := Int64.ofInt a) O.1 O.2.1 hd ?_ (k O H locs ls hP hS hl)
  apply Int64.toInt_inj.mp
  rw [Int32.toInt_toInt64, i32_le ha, i64_le (by omega)]
theorem g_l2i {l : Launch} {g : Geo} {M : Me} {κ : Kx} {K : AV → Mm → Prop} {pc : Nat} {lv : Lv} {X : Mm} {r : List AV} {a : Int} (hd : decode M.2.1 pc = .ok (.l2i, 1)) (k : G l g M κ K (pc + 1) lv (vI a :: r) X) : G l g M κ K pc lv (vJ a :: r) X := by
  obtain ⟨p, e, s, m, args, below, meth, c, A, Q, kc, ks⟩ := κ
  intro O H locs ls hP hS hl
  exact lv_l2i (v := Int32.ofInt a) O.1 O.2.1 hd Int64.toInt32_ofInt (k O H locs ls hP hS hl)
theorem g_dup {l : Launch} {g : Geo} {M : Me} {κ : Kx} {K : AV → Mm → Prop} {pc : Nat} {lv : Lv} {X : Mm} {r : List AV} {v : AV} (hv : cat v = 1) (hd : decode M.2.1 pc = .ok (.dup, 1)) (k : G l g M κ K (pc + 1) lv (v :: v :: r) X) : G l g M κ K pc lv (v :: r) X := by
  obtain ⟨p, e, s, m, args, below, meth, c, A, Q, kc, ks⟩ := κ
  intro O H locs ls hP hS hl
  exact lv_dup O.1 O.2.1 hd (by rw [cv_cat]; exact hv) (k O H locs ls hP hS hl)
theorem g_dup2 {l : Launch} {g : Geo} {M : Me} {κ : Kx} {K : AV → Mm → Prop} {pc : Nat} {lv : Lv} {X : Mm} {r : List AV} {v w : AV} (hv : cat v = 1) (hw : cat w = 1) (hd : decode M.2.1 pc = .ok (.dup2, 1)) (k : G l g M κ K (pc + 1) lv (v :: w :: v :: w :: r) X) : G l g M κ K pc lv (v :: w :: r) X := by
  obtain ⟨p, e, s, m, args, below, meth, c, A, Q, kc, ks⟩ := κ
  intro O H locs ls hP hS hl
  exact lv_dup2_11 O.1 O.2.1 hd (by rw [cv_cat]; exact hv) (by rw [cv_cat]; exact hw) (k O H locs ls hP hS hl)
theorem g_goto {l : Launch} {g : Geo} {M : Me} {κ : Kx} {K : AV → Mm → Prop} {pc : Nat} {lv : Lv} {X : Mm} {r : List AV} {o : Int} {t : Nat} (hd : decode M.2.1 pc = .ok (.goto o, 3)) (ht : (pc : Int) + o = (t : Int)) (k : G l g M κ K t lv r X) : G l g M κ K pc lv r X := by
  obtain ⟨p, e, s, m, args, below, meth, c, A, Q, kc, ks⟩ := κ
  intro O H locs ls hP hS hl
  exact lv_goto O.1 O.2.1 hd ht (k O H locs ls hP hS hl)
theorem g_if_eq {l : Launch} {g : Geo} {M : Me} {κ : Kx} {K : AV → Mm → Prop} {pc : Nat} {lv : Lv} {X : Mm} {r : List AV} {a : Int} {o : Int} {t : Nat} (hd : decode M.2.1 pc = .ok (.ifCond .eq o, 3)) (ht : (pc : Int) + o = (t : Int)) (ha : -2147483648 ≤ a ∧ a < 2147483648) (kt : a = 0 → G l g M κ K t lv r X) (kf : ¬ (a = 0) → G l g M κ K (pc + 3) lv r X) : G l g M κ K pc lv (vI a :: r) X := by
  obtain ⟨p, e, s, m, args, below, meth, c, A, Q, kc, ks⟩ := κ
  intro O H locs ls hP hS hl
  exact lv_if_eq O.1 O.2.1 hd ht (fun q => kt ((i32_eq ha (by omega)).mp q) O H locs ls hP hS hl) (fun q => kf (fun q2 => q ((i32_eq ha (by omega)).mpr q2)) O H locs ls hP hS hl)
theorem g_icmp_eq {l : Launch} {g : Geo} {M : Me} {κ : Kx} {K : AV → Mm → Prop} {pc : Nat} {lv : Lv} {X : Mm} {r : List AV} {a b : Int} {o : Int} {t : Nat} (hd : decode M.2.1 pc = .ok (.if_icmp .eq o, 3)) (ht : (pc : Int) + o = (t : Int)) (ha : -2147483648 ≤ a ∧ a < 2147483648) (hb : -2147483648 ≤ b ∧ b < 2147483648) (kt : a = b → G l g M κ K t lv r X) (kf : ¬ (a = b) → G l g M κ K (pc + 3) lv r X) : G l g M κ K pc lv (vI b :: vI a :: r) X := by
  obtain ⟨p, e, s, m, args, below, meth, c, A, Q, kc, ks⟩ := κ
  intro O H locs ls hP hS hl
  exact lv_icmp_eq O.1 O.2.1 hd ht (fun q => kt ((i32_eq ha hb).mp q) O H locs ls hP hS hl) (fun q => kf (fun q2 => q ((i32_eq ha hb).mpr q2)) O H locs ls hP hS hl)
theorem g_if_ne {l : Launch} {g : Geo} {M : Me} {κ : Kx} {K : AV → Mm → Prop} {pc : Nat} {lv : Lv} {X : Mm} {r : List AV} {a : Int} {o : Int} {t : Nat} (hd : decode M.2.1 pc = .ok (.ifCond .ne o, 3)) (ht : (pc : Int) + o = (t : Int)) (ha : -2147483648 ≤ a ∧ a < 2147483648) (kt : ¬ a = 0 → G l g M κ K t lv r X) (kf : a = 0 → G l g M κ K (pc + 3) lv r X) : G l g M κ K pc lv (vI a :: r) X := by
  obtain ⟨p, e, s, m, args, below, meth, c, A, Q, kc, ks⟩ := κ
  intro O H locs ls hP hS hl
  exact lv_if_ne O.1 O.2.1 hd ht (fun q => kt (fun q2 => q ((i32_eq ha (by omega)).mpr q2)) O H locs ls hP hS hl) (fun q => kf ((i32_eq ha (by omega)).mp q) O H locs ls hP hS hl)
theorem g_icmp_ne {l : Launch} {g : Geo} {M : Me} {κ : Kx} {K : AV → Mm → Prop} {pc : Nat} {lv : Lv} {X : Mm} {r : List AV} {a b : Int} {o : Int} {t : Nat} (hd : decode M.2.1 pc = .ok (.if_icmp .ne o, 3)) (ht : (pc : Int) + o = (t : Int)) (ha : -2147483648 ≤ a ∧ a < 2147483648) (hb : -2147483648 ≤ b ∧ b < 2147483648) (kt : ¬ a = b → G l g M κ K t lv r X) (kf : a = b → G l g M κ K (pc + 3) lv r X) : G l g M κ K pc lv (vI b :: vI a :: r) X := by
  obtain ⟨p, e, s, m, args, below, meth, c, A, Q, kc, ks⟩ := κ
  intro O H locs ls hP hS hl
  exact lv_icmp_ne O.1 O.2.1 hd ht (fun q => kt (fun q2 => q ((i32_eq ha hb).mpr q2)) O H locs ls hP hS hl) (fun q => kf ((i32_eq ha hb).mp q) O H locs ls hP hS hl)
theorem g_if_lt {l : Launch} {g : Geo} {M : Me} {κ : Kx} {K : AV → Mm → Prop} {pc : Nat} {lv : Lv} {X : Mm} {r : List AV} {a : Int} {o : Int} {t : Nat} (hd : decode M.2.1 pc = .ok (.ifCond .lt o, 3)) (ht : (pc : Int) + o = (t : Int)) (ha : -2147483648 ≤ a ∧ a < 2147483648) (kt : a < 0 → G l g M κ K t lv r X) (kf : ¬ (a < 0) → G l g M κ K (pc + 3) lv r X) : G l g M κ K pc lv (vI a :: r) X := by
  obtain ⟨p, e, s, m, args, below, meth, c, A, Q, kc, ks⟩ := κ
  intro O H locs ls hP hS hl
  exact lv_if_lt O.1 O.2.1 hd ht (fun q => kt ((i32_lt ha (by omega)).mp q) O H locs ls hP hS hl) (fun q => kf (fun q2 => q ((i32_lt ha (by omega)).mpr q2)) O H locs ls hP hS hl)
theorem g_icmp_lt {l : Launch} {g : Geo} {M : Me} {κ : Kx} {K : AV → Mm → Prop} {pc : Nat} {lv : Lv} {X : Mm} {r : List AV} {a b : Int} {o : Int} {t : Nat} (hd : decode M.2.1 pc = .ok (.if_icmp .lt o, 3)) (ht : (pc : Int) + o = (t : Int)) (ha : -2147483648 ≤ a ∧ a < 2147483648) (hb : -2147483648 ≤ b ∧ b < 2147483648) (kt : a < b → G l g M κ K t lv r X) (kf : ¬ (a < b) → G l g M κ K (pc + 3) lv r X) : G l g M κ K pc lv (vI b :: vI a :: r) X := by
  obtain ⟨p, e, s, m, args, below, meth, c, A, Q, kc, ks⟩ := κ
  intro O H locs ls hP hS hl
  exact lv_icmp_lt O.1 O.2.1 hd ht (fun q => kt ((i32_lt ha hb).mp q) O H locs ls hP hS hl) (fun q => kf (fun q2 => q ((i32_lt ha hb).mpr q2)) O H locs ls hP hS hl)
theorem g_if_ge {l : Launch} {g : Geo} {M : Me} {κ : Kx} {K : AV → Mm → Prop} {pc : Nat} {lv : Lv} {X : Mm} {r : List AV} {a : Int} {o : Int} {t : Nat} (hd : decode M.2.1 pc = .ok (.ifCond .ge o, 3)) (ht : (pc : Int) + o = (t : Int)) (ha : -2147483648 ≤ a ∧ a < 2147483648) (kt : 0 ≤ a → G l g M κ K t lv r X) (kf : ¬ (0 ≤ a) → G l g M κ K (pc + 3) lv r X) : G l g M κ K pc lv (vI a :: r) X := by
  obtain ⟨p, e, s, m, args, below, meth, c, A, Q, kc, ks⟩ := κ
  intro O H locs ls hP hS hl
  exact lv_if_ge O.1 O.2.1 hd ht (fun q => kt ((i32_ile (by omega) ha).mp q) O H locs ls hP hS hl) (fun q => kf (fun q2 => q ((i32_ile (by omega) ha).mpr q2)) O H locs ls hP hS hl)
theorem g_icmp_ge {l : Launch} {g : Geo} {M : Me} {κ : Kx} {K : AV → Mm → Prop} {pc : Nat} {lv : Lv} {X : Mm} {r : List AV} {a b : Int} {o : Int} {t : Nat} (hd : decode M.2.1 pc = .ok (.if_icmp .ge o, 3)) (ht : (pc : Int) + o = (t : Int)) (ha : -2147483648 ≤ a ∧ a < 2147483648) (hb : -2147483648 ≤ b ∧ b < 2147483648) (kt : b ≤ a → G l g M κ K t lv r X) (kf : ¬ (b ≤ a) → G l g M κ K (pc + 3) lv r X) : G l g M κ K pc lv (vI b :: vI a :: r) X := by
  obtain ⟨p, e, s, m, args, below, meth, c, A, Q, kc, ks⟩ := κ
  intro O H locs ls hP hS hl
  exact lv_icmp_ge O.1 O.2.1 hd ht (fun q => kt ((i32_ile hb ha).mp q) O H locs ls hP hS hl) (fun q => kf (fun q2 => q ((i32_ile hb ha).mpr q2)) O H locs ls hP hS hl)
theorem g_if_gt {l : Launch} {g : Geo} {M : Me} {κ : Kx} {K : AV → Mm → Prop} {pc : Nat} {lv : Lv} {X : Mm} {r : List AV} {a : Int} {o : Int} {t : Nat} (hd : decode M.2.1 pc = .ok (.ifCond .gt o, 3)) (ht : (pc : Int) + o = (t : Int)) (ha : -2147483648 ≤ a ∧ a < 2147483648) (kt : 0 < a → G l g M κ K t lv r X) (kf : ¬ (0 < a) → G l g M κ K (pc + 3) lv r X) : G l g M κ K pc lv (vI a :: r) X := by
  obtain ⟨p, e, s, m, args, below, meth, c, A, Q, kc, ks⟩ := κ
  intro O H locs ls hP hS hl
  exact lv_if_gt O.1 O.2.1 hd ht (fun q => kt ((i32_lt (by omega) ha).mp q) O H locs ls hP hS hl) (fun q => kf (fun q2 => q ((i32_lt (by omega) ha).mpr q2)) O H locs ls hP hS hl)
theorem g_icmp_gt {l : Launch} {g : Geo} {M : Me} {κ : Kx} {K : AV → Mm → Prop} {pc : Nat} {lv : Lv} {X : Mm} {r : List AV} {a b : Int} {o : Int} {t : Nat} (hd : decode M.2.1 pc = .ok (.if_icmp .gt o, 3)) (ht : (pc : Int) + o = (t : Int)) (ha : -2147483648 ≤ a ∧ a < 2147483648) (hb : -2147483648 ≤ b ∧ b < 2147483648) (kt : b < a → G l g M κ K t lv r X) (kf : ¬ (b < a) → G l g M κ K (pc + 3) lv r X) : G l g M κ K pc lv (vI b :: vI a :: r) X := by
  obtain ⟨p, e, s, m, args, below, meth, c, A, Q, kc, ks⟩ := κ
  intro O H locs ls hP hS hl
  exact lv_icmp_gt O.1 O.2.1 hd ht (fun q => kt ((i32_lt hb ha).mp q) O H locs ls hP hS hl) (fun q => kf (fun q2 => q ((i32_lt hb ha).mpr q2)) O H locs ls hP hS hl)
theorem g_if_le {l : Launch} {g : Geo} {M : Me} {κ : Kx} {K : AV → Mm → Prop} {pc : Nat} {lv : Lv} {X : Mm} {r : List AV} {a : Int} {o : Int} {t : Nat} (hd : decode M.2.1 pc = .ok (.ifCond .le o, 3)) (ht : (pc : Int) + o = (t : Int)) (ha : -2147483648 ≤ a ∧ a < 2147483648) (kt : a ≤ 0 → G l g M κ K t lv r X) (kf : ¬ (a ≤ 0) → G l g M κ K (pc + 3) lv r X) : G l g M κ K pc lv (vI a :: r) X := by
  obtain ⟨p, e, s, m, args, below, meth, c, A, Q, kc, ks⟩ := κ
  intro O H locs ls hP hS hl
  exact lv_if_le O.1 O.2.1 hd ht (fun q => kt ((i32_ile ha (by omega)).mp q) O H locs ls hP hS hl) (fun q => kf (fun q2 => q ((i32_ile ha (by omega)).mpr q2)) O H locs ls hP hS hl)
theorem g_icmp_le {l : Launch} {g : Geo} {M : Me} {κ : Kx} {K : AV → Mm → Prop} {pc : Nat} {lv : Lv} {X : Mm} {r : List AV} {a b : Int} {o : Int} {t : Nat} (hd : decode M.2.1 pc = .ok (.if_icmp .le o, 3)) (ht : (pc : Int) + o = (t : Int)) (ha : -2147483648 ≤ a ∧ a < 2147483648) (hb : -2147483648 ≤ b ∧ b < 2147483648) (kt : a ≤ b → G l g M κ K t lv r X) (kf : ¬ (a ≤ b) → G l g M κ K (pc + 3) lv r X) : G l g M κ K pc lv (vI b :: vI a :: r) X := by
  obtain ⟨p, e, s, m, args, below, meth, c, A, Q, kc, ks⟩ := κ
  intro O H locs ls hP hS hl
  exact lv_icmp_le O.1 O.2.1 hd ht (fun q => kt ((i32_ile ha hb).mp q) O H locs ls hP hS hl) (fun q => kf (fun q2 => q ((i32_ile ha hb).mpr q2)) O H locs ls hP hS hl)
theorem g_lcmp {l : Launch} {g : Geo} {M : Me} {κ : Kx} {K : AV → Mm → Prop} {pc : Nat} {lv : Lv} {X : Mm} {r : List AV} {a b : Int} (ha : -9223372036854775808 ≤ a ∧ a < 9223372036854775808) (hb : -9223372036854775808 ≤ b ∧ b < 9223372036854775808) (hd : decode M.2.1 pc = .ok (.lcmp, 1)) (k : G l g M κ K (pc + 1) lv (vI (if b < a then 1 else if a = b then 0 else -1) :: r) X) : G l g M κ K pc lv (vJ b :: vJ a :: r) X := by
  obtain ⟨p, e, s, m, args, below, meth, c, A, Q, kc, ks⟩ := κ
  intro O H locs ls hP hS hl
  refine W.lcmp O.1 O.2.1 hd ?_
  rw [lg_lt ha hb]
  exact k O H locs ls hP hS hl
theorem cmp_rng (a b : Int) : -2147483648 ≤ (if b < a then (1 : Int) else if a = b then 0 else -1) ∧ (if b < a then (1 : Int) else if a = b then 0 else -1) < 2147483648 := by
  split
  · omega
  · split <;> omega
theorem cmp_eq (a b : Int) : ((if b < a then (1 : Int) else if a = b then 0 else -1) = 0) ↔ a = b := by
  split
  · omega
  · split <;> omega
theorem g_leq {l : Launch} {g : Geo} {M : Me} {κ : Kx} {K : AV → Mm → Prop} {pc : Nat} {lv : Lv} {X : Mm} {r : List AV} {a b : Int} {o : Int} {t : Nat} (hd : decode M.2.1 pc = .ok (.lcmp, 1)) (hd2 : decode M.2.1 (pc + 1) = .ok (.ifCond .eq o, 3)) (ht : (pc : Int) + 1 + o = (t : Int)) (ha : -9223372036854775808 ≤ a ∧ a < 9223372036854775808) (hb : -9223372036854775808 ≤ b ∧ b < 9223372036854775808) (kt : a = b → G l g M κ K t lv r X) (kf : ¬ (a = b) → G l g M κ K (pc + 1 + 3) lv r X) : G l g M κ K pc lv (vJ b :: vJ a :: r) X :=
  g_lcmp ha hb hd (g_if_eq hd2 (by omega) (cmp_rng a b) (fun q => kt ((cmp_eq a b).mp q)) (fun q => kf (fun q2 => q ((cmp_eq a b).mpr q2))))
theorem cmp_ne (a b : Int) : (¬ (if b < a then (1 : Int) else if a = b then 0 else -1) = 0) ↔ ¬ a = b := by
  split
  · omega
  · split <;> omega
theorem g_lne {l : Launch} {g : Geo} {M : Me} {κ : Kx} {K : AV → Mm → Prop} {pc : Nat} {lv : Lv} {X : Mm} {r : List AV} {a b : Int} {o : Int} {t : Nat} (hd : decode M.2.1 pc = .ok (.lcmp, 1)) (hd2 : decode M.2.1 (pc + 1) = .ok (.ifCond .ne o, 3)) (ht : (pc : Int) + 1 + o = (t : Int)) (ha : -9223372036854775808 ≤ a ∧ a < 9223372036854775808) (hb : -9223372036854775808 ≤ b ∧ b < 9223372036854775808) (kt : ¬ a = b → G l g M κ K t lv r X) (kf : a = b → G l g M κ K (pc + 1 + 3) lv r X) : G l g M κ K pc lv (vJ b :: vJ a :: r) X :=
  g_lcmp ha hb hd (g_if_ne hd2 (by omega) (cmp_rng a b) (fun q => kt ((cmp_ne a b).mp q)) (fun q => kf ((cmp_eq a b).mp q)))
theorem cmp_lt (a b : Int) : ((if b < a then (1 : Int) else if a = b then 0 else -1) < 0) ↔ a < b := by
  split
  · omega
  · split <;> omega
theorem g_llt {l : Launch} {g : Geo} {M : Me} {κ : Kx} {K : AV → Mm → Prop} {pc : Nat} {lv : Lv} {X : Mm} {r : List AV} {a b : Int} {o : Int} {t : Nat} (hd : decode M.2.1 pc = .ok (.lcmp, 1)) (hd2 : decode M.2.1 (pc + 1) = .ok (.ifCond .lt o, 3)) (ht : (pc : Int) + 1 + o = (t : Int)) (ha : -9223372036854775808 ≤ a ∧ a < 9223372036854775808) (hb : -9223372036854775808 ≤ b ∧ b < 9223372036854775808) (kt : a < b → G l g M κ K t lv r X) (kf : ¬ (a < b) → G l g M κ K (pc + 1 + 3) lv r X) : G l g M κ K pc lv (vJ b :: vJ a :: r) X :=
  g_lcmp ha hb hd (g_if_lt hd2 (by omega) (cmp_rng a b) (fun q => kt ((cmp_lt a b).mp q)) (fun q => kf (fun q2 => q ((cmp_lt a b).mpr q2))))
theorem cmp_ge (a b : Int) : (0 ≤ (if b < a then (1 : Int) else if a = b then 0 else -1)) ↔ b ≤ a := by
  split
  · omega
  · split <;> omega
theorem g_lge {l : Launch} {g : Geo} {M : Me} {κ : Kx} {K : AV → Mm → Prop} {pc : Nat} {lv : Lv} {X : Mm} {r : List AV} {a b : Int} {o : Int} {t : Nat} (hd : decode M.2.1 pc = .ok (.lcmp, 1)) (hd2 : decode M.2.1 (pc + 1) = .ok (.ifCond .ge o, 3)) (ht : (pc : Int) + 1 + o = (t : Int)) (ha : -9223372036854775808 ≤ a ∧ a < 9223372036854775808) (hb : -9223372036854775808 ≤ b ∧ b < 9223372036854775808) (kt : b ≤ a → G l g M κ K t lv r X) (kf : ¬ (b ≤ a) → G l g M κ K (pc + 1 + 3) lv r X) : G l g M κ K pc lv (vJ b :: vJ a :: r) X :=
  g_lcmp ha hb hd (g_if_ge hd2 (by omega) (cmp_rng a b) (fun q => kt ((cmp_ge a b).mp q)) (fun q => kf (fun q2 => q ((cmp_ge a b).mpr q2))))
theorem cmp_gt (a b : Int) : (0 < (if b < a then (1 : Int) else if a = b then 0 else -1)) ↔ b < a := by
  split
  · omega
  · split <;> omega
theorem g_lgt {l : Launch} {g : Geo} {M : Me} {κ : Kx} {K : AV → Mm → Prop} {pc : Nat} {lv : Lv} {X : Mm} {r : List AV} {a b : Int} {o : Int} {t : Nat} (hd : decode M.2.1 pc = .ok (.lcmp, 1)) (hd2 : decode M.2.1 (pc + 1) = .ok (.ifCond .gt o, 3)) (ht : (pc : Int) + 1 + o = (t : Int)) (ha : -9223372036854775808 ≤ a ∧ a < 9223372036854775808) (hb : -9223372036854775808 ≤ b ∧ b < 9223372036854775808) (kt : b < a → G l g M κ K t lv r X) (kf : ¬ (b < a) → G l g M κ K (pc + 1 + 3) lv r X) : G l g M κ K pc lv (vJ b :: vJ a :: r) X :=
  g_lcmp ha hb hd (g_if_gt hd2 (by omega) (cmp_rng a b) (fun q => kt ((cmp_gt a b).mp q)) (fun q => kf (fun q2 => q ((cmp_gt a b).mpr q2))))
theorem cmp_le (a b : Int) : ((if b < a then (1 : Int) else if a = b then 0 else -1) ≤ 0) ↔ a ≤ b := by
  split
  · omega
  · split <;> omega
theorem g_lle {l : Launch} {g : Geo} {M : Me} {κ : Kx} {K : AV → Mm → Prop} {pc : Nat} {lv : Lv} {X : Mm} {r : List AV} {a b : Int} {o : Int} {t : Nat} (hd : decode M.2.1 pc = .ok (.lcmp, 1)) (hd2 : decode M.2.1 (pc + 1) = .ok (.ifCond .le o, 3)) (ht : (pc : Int) + 1 + o = (t : Int)) (ha : -9223372036854775808 ≤ a ∧ a < 9223372036854775808) (hb : -9223372036854775808 ≤ b ∧ b < 9223372036854775808) (kt : a ≤ b → G l g M κ K t lv r X) (kf : ¬ (a ≤ b) → G l g M κ K (pc + 1 + 3) lv r X) : G l g M κ K pc lv (vJ b :: vJ a :: r) X :=
  g_lcmp ha hb hd (g_if_le hd2 (by omega) (cmp_rng a b) (fun q => kt ((cmp_le a b).mp q)) (fun q => kf (fun q2 => q ((cmp_le a b).mpr q2))))
theorem g_ireturn {l : Launch} {g : Geo} {M : Me} {κ : Kx} {K : AV → Mm → Prop} {pc : Nat} {lv : Lv} {X : Mm} {v : Int} (hr : M.2.2.2.1 = some .int) (hd : decode M.2.1 pc = .ok (.ireturn, 1)) (k : K (vI v) X) : G l g M κ K pc lv [vI v] X := by
  obtain ⟨p, e, s, m, args, below, meth, c, A, Q, kc, ks⟩ := κ
  intro O H locs ls hP hS hl
  exact O.2.2.2.2.2.2.2.2.2.1 pc ls H locs X v hd (Or.inl hr) k hP hS
theorem g_zreturn {l : Launch} {g : Geo} {M : Me} {κ : Kx} {K : AV → Mm → Prop} {pc : Nat} {lv : Lv} {X : Mm} {v : Int} (hr : M.2.2.2.1 = some .boolean) (hv : v = 0 ∨ v = 1) (hd : decode M.2.1 pc = .ok (.ireturn, 1)) (k : K (vI v) X) : G l g M κ K pc lv [vI v] X := by
  obtain ⟨p, e, s, m, args, below, meth, c, A, Q, kc, ks⟩ := κ
  intro O H locs ls hP hS hl
  exact O.2.2.2.2.2.2.2.2.2.1 pc ls H locs X v hd (Or.inr ⟨hr, hv⟩) k hP hS
theorem g_lreturn {l : Launch} {g : Geo} {M : Me} {κ : Kx} {K : AV → Mm → Prop} {pc : Nat} {lv : Lv} {X : Mm} {v : Int} (hr : M.2.2.2.1 = some .long) (hd : decode M.2.1 pc = .ok (.lreturn, 1)) (k : K (vJ v) X) : G l g M κ K pc lv [vJ v] X := by
  obtain ⟨p, e, s, m, args, below, meth, c, A, Q, kc, ks⟩ := κ
  intro O H locs ls hP hS hl
  exact O.2.2.2.2.2.2.2.2.2.2.1 pc ls H locs X v hd hr k hP hS
theorem g_return {l : Launch} {g : Geo} {M : Me} {κ : Kx} {K : AV → Mm → Prop} {pc : Nat} {lv : Lv} {X : Mm} (hr : M.2.2.2.1 = none) (hd : decode M.2.1 pc = .ok (.return_, 1)) (k : K (vI 0) X) : G l g M κ K pc lv [] X := by
  obtain ⟨p, e, s, m, args, below, meth, c, A, Q, kc, ks⟩ := κ
  intro O H locs ls hP hS hl
  exact O.2.2.2.2.2.2.2.2.2.2.2 pc ls H locs X hd hr k hP hS
theorem g_sub {l : Launch} {g : Geo} {M : Me} {κ : Kx} {K : AV → Mm → Prop} {pc : Nat} {lv : Lv} {X : Mm} {r : List AV} (lv2 : Lv) (h : ∀ q ∈ lv2, lv.lookup q.1 = some q.2) (k : G l g M κ K pc lv2 r X) : G l g M κ K pc lv r X := by
  obtain ⟨p, e, s, m, args, below, meth, c, A, Q, kc, ks⟩ := κ
  intro O H locs ls hP hS hl
  refine k O H locs ls hP hS ⟨hl.1, hl.2.1, fun q hq => ?_⟩
  obtain ⟨q2, h2, e⟩ := List.mem_map.mp hq
  subst e
  exact lk_at hl (h q2 h2)
theorem g_subl {l : Launch} {g : Geo} {M : Me} {κ : Kx} {K : AV → Mm → Prop} {pc : Nat} {lv : Lv} {X : Mm} {r : List AV} (lv2 : Lv) (h : lv2.map (fun q => lv.lookup q.1) = lv2.map (fun q => some q.2)) (k : G l g M κ K pc lv2 r X) : G l g M κ K pc lv r X :=
  g_sub lv2 (List.map_inj_left.mp h) k
theorem g_mem {l : Launch} {g : Geo} {M : Me} {κ : Kx} {K : AV → Mm → Prop} {pc : Nat} {lv : Lv} {X : Mm} {r : List AV} {X2 : Mm} (h : X = X2) (k : G l g M κ K pc lv r X2) : G l g M κ K pc lv r X := h ▸ k
theorem g_iald {l : Launch} {g : Geo} {M : Me} {κ : Kx} {K : AV → Mm → Prop} {pc : Nat} {lv : Lv} {X : Mm} {r : List AV} {a : Nat} {i : Int} (j : Nat) {n : Nat} (ha : kd a = 9) (hn : ln a = n) (hi : i = (j : Int)) (hj : j < n) (hm : n < 2147483648) (hd : decode M.2.1 pc = .ok (.iaload, 1)) (k : G l g M κ K (pc + 1) lv (vI (X a j) :: r) X) : G l g M κ K pc lv (vI i :: vR a :: r) X := by
  obtain ⟨p, e, s, m, args, below, meth, c, A, Q, kc, ks⟩ := κ
  intro O H locs ls hP hS hl
  subst hn
  subst hi
  have h70 := kd_lt ha (by omega)
  have hw := wl_at g X h70
  rw [ce_i ha] at hw
  refine va_iald O.1 O.2.1 O.2.2.2.2.2.1 hP a 0 hw rfl (i32_in hj hm) hd ?_
  rw [i32_ix (by omega)]
  exact k O H locs ls hP hS hl
theorem g_lald {l : Launch} {g : Geo} {M : Me} {κ : Kx} {K : AV → Mm → Prop} {pc : Nat} {lv : Lv} {X : Mm} {r : List AV} {a : Nat} {i : Int} (j : Nat) {n : Nat} (ha : kd a = 10) (hn : ln a = n) (hi : i = (j : Int)) (hj : j < n) (hm : n < 2147483648) (hd : decode M.2.1 pc = .ok (.laload, 1)) (k : G l g M κ K (pc + 1) lv (vJ (X a j) :: r) X) : G l g M κ K pc lv (vI i :: vR a :: r) X := by
  obtain ⟨p, e, s, m, args, below, meth, c, A, Q, kc, ks⟩ := κ
  intro O H locs ls hP hS hl
  subst hn
  subst hi
  have h70 := kd_lt ha (by omega)
  have hw := wl_at g X h70
  rw [ce_j ha] at hw
  refine va_lald O.1 O.2.1 O.2.2.2.2.2.1 hP a 1 hw rfl (i32_in hj hm) hd ?_
  rw [i32_ix (by omega)]
  exact k O H locs ls hP hS hl
theorem g_zald {l : Launch} {g : Geo} {M : Me} {κ : Kx} {K : AV → Mm → Prop} {pc : Nat} {lv : Lv} {X : Mm} {r : List AV} {a : Nat} {i : Int} (j : Nat) {n : Nat} (ha : kd a = 11) (hn : ln a = n) (hi : i = (j : Int)) (hj : j < n) (hm : n < 2147483648) (hd : decode M.2.1 pc = .ok (.baload, 1)) (k : G l g M κ K (pc + 1) lv (vI (X a j) :: r) X) : G l g M κ K pc lv (vI i :: vR a :: r) X := by
  obtain ⟨p, e, s, m, args, below, meth, c, A, Q, kc, ks⟩ := κ
  intro O H locs ls hP hS hl
  subst hn
  subst hi
  have h70 := kd_lt ha (by omega)
  have hw := wl_at g X h70
  rw [ce_z ha] at hw
  refine va_zald O.1 O.2.1 O.2.2.2.2.2.1 hP a 2 hw rfl (i32_in hj hm) hd ?_
  rw [i32_ix (by omega)]
  exact k O H locs ls hP hS hl
theorem g_iast {l : Launch} {g : Geo} {M : Me} {κ : Kx} {K : AV → Mm → Prop} {pc : Nat} {lv : Lv} {X : Mm} {r : List AV} {a : Nat} {i v : Int} (j : Nat) {n : Nat} (ha : kd a = 9) (hn : ln a = n) (hi : i = (j : Int)) (hj : j < n) (hm : n < 2147483648) (hd : decode M.2.1 pc = .ok (.iastore, 1)) (k : G l g M κ K (pc + 1) lv r (st2 X a j v)) : G l g M κ K pc lv (vI v :: vI i :: vR a :: r) X := by
  obtain ⟨p, e, s, m, args, below, meth, c, A, Q, kc, ks⟩ := κ
  intro O H locs ls hP hS hl
  subst hn
  subst hi
  have h70 := kd_lt ha (by omega)
  have hw := wl_at g X h70
  rw [ce_i ha] at hw
  refine va_iast O.1 O.2.1 O.2.2.2.2.2.1 hP (wl_D O.2.2.2.2.2.2.2.1 X (fun i hi => O.2.2.2.2.2.2.2.2.1 _ (Or.inl ⟨i, hi, rfl⟩))) hS a 0 hw rfl (i32_in hj hm) hd (fun H1 locs1 hP1 hD1 hS1 => ?_)
  rw [i32_ix (by omega), wl_set g X v h70 (j := j) (by
    rw [ce_i ha]
    congr 4
    (try apply congrArg)
    funext k
    unfold upd
    by_cases e : k = j
    · rw [if_pos e, if_pos e]
    · rw [if_neg e, if_neg e])] at hP1
  exact k O H1 locs1 ls hP1 hS1 hl
theorem g_last {l : Launch} {g : Geo} {M : Me} {κ : Kx} {K : AV → Mm → Prop} {pc : Nat} {lv : Lv} {X : Mm} {r : List AV} {a : Nat} {i v : Int} (j : Nat) {n : Nat} (ha : kd a = 10) (hn : ln a = n) (hi : i = (j : Int)) (hj : j < n) (hm : n < 2147483648) (hd : decode M.2.1 pc = .ok (.lastore, 1)) (k : G l g M κ K (pc + 1) lv r (st2 X a j v)) : G l g M κ K pc lv (vJ v :: vI i :: vR a :: r) X := by
  obtain ⟨p, e, s, m, args, below, meth, c, A, Q, kc, ks⟩ := κ
  intro O H locs ls hP hS hl
  subst hn
  subst hi
  have h70 := kd_lt ha (by omega)
  have hw := wl_at g X h70
  rw [ce_j ha] at hw
  refine va_last O.1 O.2.1 O.2.2.2.2.2.1 hP (wl_D O.2.2.2.2.2.2.2.1 X (fun i hi => O.2.2.2.2.2.2.2.2.1 _ (Or.inl ⟨i, hi, rfl⟩))) hS a 1 hw rfl (i32_in hj hm) hd (fun H1 locs1 hP1 hD1 hS1 => ?_)
  rw [i32_ix (by omega), wl_set g X v h70 (j := j) (by
    rw [ce_j ha]
    congr 4
    (try apply congrArg)
    funext k
    unfold vp_updL
    by_cases e : k = j
    · rw [if_pos e, if_pos e]
    · rw [if_neg e, if_neg e])] at hP1
  exact k O H1 locs1 ls hP1 hS1 hl
theorem nar_z {v : Int} (h : v = 0 ∨ v = 1) : vp_nar .boolean (Int32.ofInt v) = Int32.ofInt v := by
  rcases h with rfl | rfl <;> decide
theorem g_zast {l : Launch} {g : Geo} {M : Me} {κ : Kx} {K : AV → Mm → Prop} {pc : Nat} {lv : Lv} {X : Mm} {r : List AV} {a : Nat} {i v : Int} (j : Nat) {n : Nat} (hv : v = 0 ∨ v = 1) (ha : kd a = 11) (hn : ln a = n) (hi : i = (j : Int)) (hj : j < n) (hm : n < 2147483648) (hd : decode M.2.1 pc = .ok (.bastore, 1)) (k : G l g M κ K (pc + 1) lv r (st2 X a j v)) : G l g M κ K pc lv (vI v :: vI i :: vR a :: r) X := by
  obtain ⟨p, e, s, m, args, below, meth, c, A, Q, kc, ks⟩ := κ
  intro O H locs ls hP hS hl
  subst hn
  subst hi
  have h70 := kd_lt ha (by omega)
  have hw := wl_at g X h70
  rw [ce_z ha] at hw
  refine va_zast O.1 O.2.1 O.2.2.2.2.2.1 hP (wl_D O.2.2.2.2.2.2.2.1 X (fun i hi => O.2.2.2.2.2.2.2.2.1 _ (Or.inl ⟨i, hi, rfl⟩))) hS a 2 hw rfl (i32_in hj hm) hd (fun H1 locs1 hP1 hD1 hS1 => ?_)
  rw [i32_ix (by omega), nar_z hv, wl_set g X v h70 (j := j) (by
    rw [ce_z ha]
    congr 4
    funext k
    unfold upd
    by_cases e : k = j
    · rw [if_pos e, if_pos e]
    · rw [if_neg e, if_neg e])] at hP1
  exact k O H1 locs1 ls hP1 hS1 hl
