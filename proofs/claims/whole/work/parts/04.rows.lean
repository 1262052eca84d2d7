def arl : Nat → List AV → Lv
  | _, [] => []
  | i, v :: vs => (i, v) :: arl (if cat v = 2 then i + 2 else i + 1) vs
theorem arl_cv (g : Geo) : ∀ (as : List AV) (i : Nat), lv_args i (as.map (cv g)) = cvl g (arl i as)
  | [], _ => rfl
  | v :: vs, i => by
    show (i, cv g v) :: lv_args (if (cv g v).category = 2 then i + 2 else i + 1) (vs.map (cv g)) = (i, cv g v) :: cvl g (arl (if cat v = 2 then i + 2 else i + 1) vs)
    rw [cv_cat, arl_cv g vs]
theorem arl_len (g : Geo) : ∀ as : List AV, (lg_sl (as.map (cv g))).length = (as.map cat).sum
  | [] => rfl
  | v :: vs => by
    have ih := arl_len g vs
    unfold lg_sl at ih ⊢
    simp only [List.map_cons, List.flatMap_cons, List.length_append, List.sum_cons, ih, cv_cat]
    rcases v with q | q | q <;> simp [cat]
theorem WU.end {g : Geo} {X : Mm} {s t : State} {H : Heap} (hP : va_P g.2.2.2.2 vwCl (wl g X) H) (ht : t.heap = H) (hW : s.WarmedH t.vm) (hK : va_K g.2.2.2.2 vwCl (tys g) s) (hN : NW s) (hI : GI g) : WU g X t := ⟨by rw [ht]; exact hP, va_K.moved hW.alike hK, NW.warm hW hN, hI⟩
theorem nar_zz {v : Int} (h : v = 0 ∨ v = 1) : narrow .boolean (.int (Int32.ofInt v)) = .int (Int32.ofInt v) := by
  rcases h with rfl | rfl <;> rfl
/-- a contract out of the walk of the body -/
theorem enter {l : Launch} {g : Geo} {M : Me} {as : List AV} {X : Mm} {K : AV → Mm → Prop} (hy : plainName M.1.cls = true) (hen : (as.map cat).sum ≤ M.2.2.1) (h : ∀ κ, G l g M κ K 0 (arl 0 as) [] X) : Ct l g M as X K := by
  intro sz
  refine Met.ofW (cc := M.2.1) (maxL := M.2.2.1) (ret := M.2.2.2.1) hy rfl ?_
  intro p e s m args below meth c s₁ B hml hv
  obtain ⟨rfl, hsz, hP, hK, hN, hI⟩ := hv
  subst hsz
  have hx := B.exec
  have hb := B.bytes
  have hr := B.returns
  have hts := atoms_spec (ws := .code M.1 M.2.1 M.2.2.1 M.2.2.2.1 :: TB) B.pre
  have hown : s.vm.findClass M.1.cls = some m.cls := findClass_of_methodNamed B.named
  have hlocks := B.notSynchronized
  have hl := lv_entry (as.map (cv g)) (n := M.2.2.1) (by rw [arl_len]; exact hen)
  rw [arl_cv] at hl
  rw [lg_entry_eq]
  refine h (p, e, s, m, (as.map (cv g)).toArray, below, meth, c, AA g s.heap.size, MQ below (Qc g M.2.2.2.1 K s.heap.size) (as.map (cv g)).toArray s 0 0 (AA g s.heap.size), 0, 0) ⟨hx, hb, hml, hown, fun w hw => hts w (List.mem_cons_of_mem _ hw), hK, hN, hI, fun q hq => hq, ?_, ?_, ?_⟩ s.heap [] _ hP va_S.rf hl
  · intro pc ls H locs X v hd hrt k hP hS
    rcases hrt with hrt | ⟨hrt, hv⟩
    · refine W.iret hx hb (hr.trans hrt) (fun t ht hW => ?_) hS.2.2 hd
      unfold Qc
      rw [if_neg (by rw [hrt]; exact fun q => by cases q), if_neg (by rw [hrt]; exact fun q => by cases q)]
      exact ⟨⟨_, (v, X), rfl, ⟨rfl, k⟩, WU.end hP ht hW hK hN hI⟩, hS.F ht⟩
    · refine W.zret hx hb (hr.trans hrt) (nar_zz hv) (fun t ht hW => ?_) hS.2.2 hd
      unfold Qc
      rw [if_neg (by rw [hrt]; exact fun q => by cases q), if_neg (by rw [hrt]; exact fun q => by cases q)]
      exact ⟨⟨_, (v, X), rfl, ⟨rfl, k⟩, WU.end hP ht hW hK hN hI⟩, hS.F ht⟩
  · intro pc ls H locs X v hd hrt k hP hS
    refine W.lret hx hb (hr.trans hrt) (fun t ht hW => ?_) hS.2.2 hd
    unfold Qc
    rw [if_neg (by rw [hrt]; exact fun q => by cases q), if_pos hrt]
    exact ⟨⟨_, (v, X), rfl, ⟨rfl, k⟩, WU.end hP ht hW hK hN hI⟩, hS.F ht⟩
  · intro pc ls H locs X hd hrt k hP hS
    refine W.vret hx hb (hr.trans hrt) (fun t ht hW => ?_) hS.2.2 hd
    unfold Qc
    rw [if_pos hrt]
    exact ⟨⟨X, rfl, k, WU.end hP ht hW hK hN hI⟩, hS.F ht⟩
-- calls
def CalV (M : Me) (n : Nat) : Prop := Cond.instanceMethod M.1 ∈ TB ∧ Cond.selects M.1.cls M.1 M.1 ∈ TB ∧ Cond.initialized M.1.cls ∈ TB ∧ Cond.code M.1 M.2.1 M.2.2.1 M.2.2.2.1 ∈ TB ∧ (M.1.cls ≠ "java/lang/invoke/MethodHandle" ∧ M.1.cls ≠ "java/lang/invoke/VarHandle" ∧ (parseMethodDescriptor M.1.desc).map (fun d => d.parameters.length) = some n)
def CalS (M : Me) (n : Nat) : Prop := Cond.static M.1 ∈ TB ∧ Cond.initialized M.1.cls ∈ TB ∧ Cond.code M.1 M.2.1 M.2.2.1 M.2.2.2.1 ∈ TB ∧ (M.1.cls ≠ "java/lang/invoke/MethodHandle" ∧ M.1.cls ≠ "java/lang/invoke/VarHandle" ∧ (parseMethodDescriptor M.1.desc).map (fun d => d.parameters.length) = some n)
def Rm (M M2 : Me) : Prop := M2.2.2.2.2.1 + 1 ≤ M.2.2.2.2.1 ∧ 8 + (M2.2.2.1 + 11) + M2.2.2.2.2.2 ≤ M.2.2.2.2.2
theorem gi_tb {ws : List Cond} (h : ∀ w ∈ ws, w ∈ TB) : GoodIn TB ws := fun w hw => ⟨h w hw, TB_good w (h w hw)⟩
theorem gi_cd {M : Me} (h : Cond.code M.1 M.2.1 M.2.2.1 M.2.2.2.1 ∈ TB) : ∀ w ∈ (Cond.code M.1 M.2.1 M.2.2.1 M.2.2.2.1 :: TB), w ∈ TB := fun w hw => (List.mem_cons.mp hw).elim (fun e => e ▸ h) id
theorem mc_sum (g : Geo) (st : List AV) : ((st.map (cv g)).map fun v => v.category).sum = (st.map cat).sum := by
  rw [List.map_map]
  congr 1
  exact List.map_congr_left (fun v _ => cv_cat g v)
theorem AA_le {g : Geo} {a b q : Nat} (h : a ≤ b) (hq : AA g b q) : AA g a q := hq.imp id (fun x => Nat.le_trans h x)
theorem blindP (g : Geo) (X : Mm) (as : List Value) (sz : Nat) : FrameBlind (va_Pc as (fun U => U.heap.size = sz ∧ WU g X U)) := fun a U f mk q => ⟨q.1, q.2.1, q.2.2.1, va_K.moved (u := U) (U := U.calling f mk a) (Vm.Alike.refl U.vm) q.2.2.2.1, NW.same rfl q.2.2.2.2.1, q.2.2.2.2.2⟩
/-- behind a call, whatever it answers -/
theorem g_back {l : Launch} {g : Geo} {M : Me} {κ : Kx} {K : AV → Mm → Prop} {pc : Nat} {lv : Lv} {X : Mm} {M2 : Me} {as st : List AV} {st0 : List Value} {mk : Array Value} (h : Ct l g M2 as X (fun v X2 => G l g M κ K (pc + 3) lv (if M2.2.2.2.1 = none then st else v :: st) X2)) : match κ with
  | (p, e, s, m, args, below, meth, c, A, Q, kc, ks) => Ok l g M (p, e, s, m, args, below, meth, c, A, Q, kc, ks) K → ∀ (H : Heap) (locs : List Loc) (ls : Array Slot), va_P g.2.2.2.2 vwCl (wl g X) H → va_S A s.heap H locs → lv_has ls M.2.2.1 (cvl g lv) →
    va_Run p l e (rM M kc ks) s m args below meth c H locs kc ks 0 0 (F0 m pc ls st0) (st.map (cv g)) (Qc g M2.2.2.2.1 (fun v X2 => G l g M (p, e, s, m, args, below, meth, c, A, Q, kc, ks) K (pc + 3) lv (if M2.2.2.2.1 = none then st else v :: st) X2) H.size mk) (AA g H.size) → W p l e (rM M kc ks) s m args below meth c H locs kc ks Q (F0 m pc ls st0) := by
  obtain ⟨p, e, s, m, args, below, meth, c, A, Q, kc, ks⟩ := κ
  intro O H locs ls hP hS hl hr
  have hAA : ∀ q, AA g H.size q → A q := fun q hq => O.2.2.2.2.2.2.2.2.1 q (AA_le hS.1 hq)
  unfold Qc at hr
  by_cases c1 : M2.2.2.2.1 = none
  · rw [if_pos c1] at hr
    refine va_callv hr hS (fun q _ h => hAA q h) hAA (fun u t H1 locs1 ht hvm hw hB hz1 hk1 hS1 => ?_)
    dsimp only at hw
    rw [if_pos c1] at hw
    exact hw O H1 locs1 ls (by rw [← ht]; exact hB.1) hS1 hl
  · rw [if_neg c1] at hr
    by_cases c2 : M2.2.2.2.1 = some .long
    · rw [if_pos c2] at hr
      refine va_calll hr hS (fun q _ h => hAA q h) hAA (fun x u t H1 locs1 ht hvm hw hB hz1 hk1 hS1 => ?_)
      obtain ⟨e1, hw⟩ := hw
      rw [if_neg c1] at hw
      subst e1
      exact hw O H1 locs1 ls (by rw [← ht]; exact hB.1) hS1 hl
    · rw [if_neg c2] at hr
      refine va_calli hr hS (fun q _ h => hAA q h) hAA (fun x u t H1 locs1 ht hvm hw hB hz1 hk1 hS1 => ?_)
      obtain ⟨e1, hw⟩ := hw
      rw [if_neg c1] at hw
      subst e1
      exact hw O H1 locs1 ls (by rw [← ht]; exact hB.1) hS1 hl
theorem g_callV {l : Launch} {g : Geo} {M : Me} {κ : Kx} {K : AV → Mm → Prop} {pc : Nat} {lv : Lv} {X : Mm} {M2 : Me} {as st : List AV} {b ci idx n N : Nat} {T : u_T} (hd : decode M.2.1 pc = .ok (.invokevirtual idx, 3)) (hml : Cond.methodLink M.1.cls idx M2.1 ∈ TB) (hC : CalV M2 n) (hn : as.length = n) (hb : kd b = ci) (h9 : ci < 9) (hci : vwCl[ci]? = some (M2.1.cls, T, N)) (hR : Rm M M2) (hw : (st.map cat).sum ≤ 8) (h : Ct l g M2 (vR b :: as) X (fun v X2 => G l g M κ K (pc + 3) lv (if M2.2.2.2.1 = none then st else v :: st) X2)) : G l g M κ K pc lv (as.reverse ++ vR b :: st) X := by
  have hgo := g_back (mk := ((vR b :: as).map (cv g)).toArray) (st0 := (as.reverse ++ vR b :: st).map (cv g)) h
  obtain ⟨p, e, s, m, args, below, meth, c, A, Q, kc, ks⟩ := κ
  intro O H locs ls hP hS hl
  refine hgo O H locs ls hP hS hl ?_
  have hws := wl_at g X (kd_lt hb (by omega))
  rw [ce_o hb h9] at hws
  exact va_runV (As := as.map (cv g)) (b := g.1 b) ⟨O.1, O.2.1, O.2.2.1, O.2.2.2.1, O.2.2.2.2.1⟩ (h H.size) (cwV n O.2.2.2.2.1 (gi_tb (by
      intro w hw
      simp only [wsV, List.mem_append, List.mem_cons, List.not_mem_nil, or_false] at hw
      rcases hw with (rfl | rfl | rfl | rfl) | hw
      · exact hml
      · exact hC.1
      · exact hC.2.1
      · exact hC.2.2.1
      · exact gi_cd hC.2.2.2.1 w (List.mem_cons.mpr hw))) rfl rfl rfl ⟨rfl, hC.2.2.2.2⟩ hR)
    ⟨blindP g X _ _, va_recv O.2.2.2.2.2.1 hP hci hws, fun U hU hW => ⟨rfl, by rw [hU], by rw [hU]; exact hP, va_K.moved hW.alike O.2.2.2.2.2.1, NW.warm hW O.2.2.2.2.2.2.1, O.2.2.2.2.2.2.2.1⟩⟩
    rfl (by rw [List.length_map]; exact hn) hl.1 (by simp [cv, List.map_reverse]) (lv_room (by rw [mc_sum]; exact hw)) hd ⟨Nat.le_refl _, Nat.le_refl _⟩
theorem g_callS {l : Launch} {g : Geo} {M : Me} {κ : Kx} {K : AV → Mm → Prop} {pc : Nat} {lv : Lv} {X : Mm} {M2 : Me} {as st : List AV} {idx n : Nat} (hd : decode M.2.1 pc = .ok (.invokestatic idx, 3)) (hml : Cond.methodLink M.1.cls idx M2.1 ∈ TB) (hC : CalS M2 n) (hcl : M2.1.cls = M.1.cls) (hn : as.length = n) (hR : Rm M M2) (hw : (st.map cat).sum ≤ 8) (h : Ct l g M2 as X (fun v X2 => G l g M κ K (pc + 3) lv (if M2.2.2.2.1 = none then st else v :: st) X2)) : G l g M κ K pc lv (as.reverse ++ st) X := by
  have hgo := g_back (mk := (as.map (cv g)).toArray) (st0 := (as.reverse ++ st).map (cv g)) h
  obtain ⟨p, e, s, m, args, below, meth, c, A, Q, kc, ks⟩ := κ
  intro O H locs ls hP hS hl
  refine hgo O H locs ls hP hS hl ?_
  exact va_runS (As := as.map (cv g)) ⟨O.1, O.2.1, O.2.2.1, O.2.2.2.1, O.2.2.2.2.1⟩ (h H.size) (cwS n O.2.2.2.2.1 (gi_tb (by
      intro w hw
      simp only [wsS, List.mem_append, List.mem_cons, List.not_mem_nil, or_false] at hw
      rcases hw with (rfl | rfl | rfl) | hw
      · exact hml
      · exact hC.1
      · rw [← hcl]; exact hC.2.1
      · exact gi_cd hC.2.2.1 w (List.mem_cons.mpr hw))) rfl rfl rfl ⟨hcl, hC.2.2.2⟩ hR)
    ⟨blindP g X _ _, fun U hU hW => ⟨rfl, by rw [hU], by rw [hU]; exact hP, va_K.moved hW.alike O.2.2.2.2.2.1, NW.warm hW O.2.2.2.2.2.2.1, O.2.2.2.2.2.2.2.1⟩⟩
    rfl (by rw [List.length_map]; exact hn) hl.1 (by simp [List.map_reverse]) (lv_room (by rw [mc_sum]; exact hw)) hd ⟨Nat.le_refl _, Nat.le_refl _⟩
theorem g_callN {l : Launch} {g : Geo} {M : Me} {κ : Kx} {K : AV → Mm → Prop} {pc : Nat} {lv : Lv} {X : Mm} {M2 : Me} {as st : List AV} {idx n : Nat} (hd : decode M.2.1 pc = .ok (.invokestatic idx, 3)) (hml : ∀ U : State, NW U → va_Nw (.methodLinkNest M.1.cls idx M2.1 RX7) U) (hC : CalS M2 n) (hn : as.length = n) (hR : Rm M M2) (hw : (st.map cat).sum ≤ 8) (h : Ct l g M2 as X (fun v X2 => G l g M κ K (pc + 3) lv (if M2.2.2.2.1 = none then st else v :: st) X2)) : G l g M κ K pc lv (as.reverse ++ st) X := by
  have hgo := g_back (mk := (as.map (cv g)).toArray) (st0 := (as.reverse ++ st).map (cv g)) h
  obtain ⟨p, e, s, m, args, below, meth, c, A, Q, kc, ks⟩ := κ
  intro O H locs ls hP hS hl
  refine hgo O H locs ls hP hS hl ?_
  exact va_runSN (As := as.map (cv g)) ⟨O.1, O.2.1, O.2.2.1, O.2.2.2.1, O.2.2.2.2.1⟩ (h H.size) ⟨va_cnB n O.2.2.2.2.1 (gi_tb (gi_cd hC.2.2.1)) rfl rfl rfl (hml s O.2.2.2.2.2.2.1) (O.2.2.2.2.1 _ hC.2.1) hC.2.2.2 hR, O.2.2.2.2.1 _ hC.1, trivial⟩
    ⟨blindP g X _ _, fun U hU hW => ⟨rfl, by rw [hU], by rw [hU]; exact hP, va_K.moved hW.alike O.2.2.2.2.2.1, NW.warm hW O.2.2.2.2.2.2.1, O.2.2.2.2.2.2.2.1⟩⟩
    rfl (by rw [List.length_map]; exact hn) hl.1 (by simp [List.map_reverse]) (lv_room (by rw [mc_sum]; exact hw)) hd ⟨Nat.le_refl _, Nat.le_refl _⟩
theorem g_cv0 {l : Launch} {g : Geo} {M : Me} {κ : Kx} {K : AV → Mm → Prop} {pc : Nat} {lv : Lv} {X : Mm} {r : List AV} {M2 : Me} {b ci idx N : Nat} {T : u_T} (hd : decode M.2.1 pc = .ok (.invokevirtual idx, 3)) (hml : Cond.methodLink M.1.cls idx M2.1 ∈ TB) (hC : CalV M2 0) (hrt : ¬ M2.2.2.2.1 = none) (hb : kd b = ci) (h9 : ci < 9) (hci : vwCl[ci]? = some (M2.1.cls, T, N)) (hR : Rm M M2) (hw : (r.map cat).sum ≤ 8) (h : Ct l g M2 (vR b :: []) X (fun v X2 => G l g M κ K (pc + 3) lv (v :: r) X2)) : G l g M κ K pc lv (vR b :: r) X :=
  g_callV (as := []) hd hml hC rfl hb h9 hci hR hw (by simpa only [if_neg hrt] using h)
theorem g_cv0v {l : Launch} {g : Geo} {M : Me} {κ : Kx} {K : AV → Mm → Prop} {pc : Nat} {lv : Lv} {X : Mm} {r : List AV} {M2 : Me} {b ci idx N : Nat} {T : u_T} (hd : decode M.2.1 pc = .ok (.invokevirtual idx, 3)) (hml : Cond.methodLink M.1.cls idx M2.1 ∈ TB) (hC : CalV M2 0) (hrt : M2.2.2.2.1 = none) (hb : kd b = ci) (h9 : ci < 9) (hci : vwCl[ci]? = some (M2.1.cls, T, N)) (hR : Rm M M2) (hw : (r.map cat).sum ≤ 8) (h : Ct l g M2 (vR b :: []) X (fun _ X2 => G l g M κ K (pc + 3) lv (r) X2)) : G l g M κ K pc lv (vR b :: r) X :=
  g_callV (as := []) hd hml hC rfl hb h9 hci hR hw (by simpa only [if_pos hrt] using h)
theorem g_cv1 {l : Launch} {g : Geo} {M : Me} {κ : Kx} {K : AV → Mm → Prop} {pc : Nat} {lv : Lv} {X : Mm} {r : List AV} {M2 : Me} {a1 : AV} {b ci idx N : Nat} {T : u_T} (hd : decode M.2.1 pc = .ok (.invokevirtual idx, 3)) (hml : Cond.methodLink M.1.cls idx M2.1 ∈ TB) (hC : CalV M2 1) (hrt : ¬ M2.2.2.2.1 = none) (hb : kd b = ci) (h9 : ci < 9) (hci : vwCl[ci]? = some (M2.1.cls, T, N)) (hR : Rm M M2) (hw : (r.map cat).sum ≤ 8) (h : Ct l g M2 (vR b :: [a1]) X (fun v X2 => G l g M κ K (pc + 3) lv (v :: r) X2)) : G l g M κ K pc lv (a1 :: vR b :: r) X :=
  g_callV (as := [a1]) hd hml hC rfl hb h9 hci hR hw (by simpa only [if_neg hrt] using h)
theorem g_cs1 {l : Launch} {g : Geo} {M : Me} {κ : Kx} {K : AV → Mm → Prop} {pc : Nat} {lv : Lv} {X : Mm} {r : List AV} {M2 : Me} {a1 : AV} {idx : Nat} (hd : decode M.2.1 pc = .ok (.invokestatic idx, 3)) (hml : Cond.methodLink M.1.cls idx M2.1 ∈ TB) (hC : CalS M2 1) (hcl : M2.1.cls = M.1.cls) (hrt : ¬ M2.2.2.2.1 = none) (hR : Rm M M2) (hw : (r.map cat).sum ≤ 8) (h : Ct l g M2 [a1] X (fun v X2 => G l g M κ K (pc + 3) lv (v :: r) X2)) : G l g M κ K pc lv (a1 :: r) X :=
  g_callS (as := [a1]) hd hml hC hcl rfl hR hw (by simpa only [if_neg hrt] using h)
theorem g_cn1 {l : Launch} {g : Geo} {M : Me} {κ : Kx} {K : AV → Mm → Prop} {pc : Nat} {lv : Lv} {X : Mm} {r : List AV} {M2 : Me} {a1 : AV} {idx : Nat} (hd : decode M.2.1 pc = .ok (.invokestatic idx, 3)) (hml : ∀ U : State, NW U → va_Nw (.methodLinkNest M.1.cls idx M2.1 RX7) U) (hC : CalS M2 1) (hrt : ¬ M2.2.2.2.1 = none) (hR : Rm M M2) (hw : (r.map cat).sum ≤ 8) (h : Ct l g M2 [a1] X (fun v X2 => G l g M κ K (pc + 3) lv (v :: r) X2)) : G l g M κ K pc lv (a1 :: r) X :=
  g_callN (as := [a1]) hd hml hC rfl hR hw (by simpa only [if_neg hrt] using h)
theorem g_cv1v {l : Launch} {g : Geo} {M : Me} {κ : Kx} {K : AV → Mm → Prop} {pc : Nat} {lv : Lv} {X : Mm} {r : List AV} {M2 : Me} {a1 : AV} {b ci idx N : Nat} {T : u_T} (hd : decode M.2.1 pc = .ok (.invokevirtual idx, 3)) (hml : Cond.methodLink M.1.cls idx M2.1 ∈ TB) (hC : CalV M2 1) (hrt : M2.2.2.2.1 = none) (hb : kd b = ci) (h9 : ci < 9) (hci : vwCl[ci]? = some (M2.1.cls, T, N)) (hR : Rm M M2) (hw : (r.map cat).sum ≤ 8) (h : Ct l g M2 (vR b :: [a1]) X (fun _ X2 => G l g M κ K (pc + 3) lv (r) X2)) : G l g M κ K pc lv (a1 :: vR b :: r) X :=
  g_callV (as := [a1]) hd hml hC rfl hb h9 hci hR hw (by simpa only [if_pos hrt] using h)
theorem g_cs1v {l : Launch} {g : Geo} {M : Me} {κ : Kx} {K : AV → Mm → Prop} {pc : Nat} {lv : Lv} {X : Mm} {r : List AV} {M2 : Me} {a1 : AV} {idx : Nat} (hd : decode M.2.1 pc = .ok (.invokestatic idx, 3)) (hml : Cond.methodLink M.1.cls idx M2.1 ∈ TB) (hC : CalS M2 1) (hcl : M2.1.cls = M.1.cls) (hrt : M2.2.2.2.1 = none) (hR : Rm M M2) (hw : (r.map cat).sum ≤ 8) (h : Ct l g M2 [a1] X (fun _ X2 => G l g M κ K (pc + 3) lv (r) X2)) : G l g M κ K pc lv (a1 :: r) X :=
  g_callS (as := [a1]) hd hml hC hcl rfl hR hw (by simpa only [if_pos hrt] using h)
theorem g_cv2 {l : Launch} {g : Geo} {M : Me} {κ : Kx} {K : AV → Mm → Prop} {pc : Nat} {lv : Lv} {X : Mm} {r : List AV} {M2 : Me} {a1 a2 : AV} {b ci idx N : Nat} {T : u_T} (hd : decode M.2.1 pc = .ok (.invokevirtual idx, 3)) (hml : Cond.methodLink M.1.cls idx M2.1 ∈ TB) (hC : CalV M2 2) (hrt : ¬ M2.2.2.2.1 = none) (hb : kd b = ci) (h9 : ci < 9) (hci : vwCl[ci]? = some (M2.1.cls, T, N)) (hR : Rm M M2) (hw : (r.map cat).sum ≤ 8) (h : Ct l g M2 (vR b :: [a1, a2]) X (fun v X2 => G l g M κ K (pc + 3) lv (v :: r) X2)) : G l g M κ K pc lv (a2 :: a1 :: vR b :: r) X :=
  g_callV (as := [a1, a2]) hd hml hC rfl hb h9 hci hR hw (by simpa only [if_neg hrt] using h)
theorem g_cs2 {l : Launch} {g : Geo} {M : Me} {κ : Kx} {K : AV → Mm → Prop} {pc : Nat} {lv : Lv} {X : Mm} {r : List AV} {M2 : Me} {a1 a2 : AV} {idx : Nat} (hd : decode M.2.1 pc = .ok (.invokestatic idx, 3)) (hml : Cond.methodLink M.1.cls idx M2.1 ∈ TB) (hC : CalS M2 2) (hcl : M2.1.cls = M.1.cls) (hrt : ¬ M2.2.2.2.1 = none) (hR : Rm M M2) (hw : (r.map cat).sum ≤ 8) (h : Ct l g M2 [a1, a2] X (fun v X2 => G l g M κ K (pc + 3) lv (v :: r) X2)) : G l g M κ K pc lv (a2 :: a1 :: r) X :=
  g_callS (as := [a1, a2]) hd hml hC hcl rfl hR hw (by simpa only [if_neg hrt] using h)
theorem g_cn2 {l : Launch} {g : Geo} {M : Me} {κ : Kx} {K : AV → Mm → Prop} {pc : Nat} {lv : Lv} {X : Mm} {r : List AV} {M2 : Me} {a1 a2 : AV} {idx : Nat} (hd : decode M.2.1 pc = .ok (.invokestatic idx, 3)) (hml : ∀ U : State, NW U → va_Nw (.methodLinkNest M.1.cls idx M2.1 RX7) U) (hC : CalS M2 2) (hrt : ¬ M2.2.2.2.1 = none) (hR : Rm M M2) (hw : (r.map cat).sum ≤ 8) (h : Ct l g M2 [a1, a2] X (fun v X2 => G l g M κ K (pc + 3) lv (v :: r) X2)) : G l g M κ K pc lv (a2 :: a1 :: r) X :=
  g_callN (as := [a1, a2]) hd hml hC rfl hR hw (by simpa only [if_neg hrt] using h)
theorem g_cv2v {l : Launch} {g : Geo} {M : Me} {κ : Kx} {K : AV → Mm → Prop} {pc : Nat} {lv : Lv} {X : Mm} {r : List AV} {M2 : Me} {a1 a2 : AV} {b ci idx N : Nat} {T : u_T} (hd : decode M.2.1 pc = .ok (.invokevirtual idx, 3)) (hml : Cond.methodLink M.1.cls idx M2.1 ∈ TB) (hC : CalV M2 2) (hrt : M2.2.2.2.1 = none) (hb : kd b = ci) (h9 : ci < 9) (hci : vwCl[ci]? = some (M2.1.cls, T, N)) (hR : Rm M M2) (hw : (r.map cat).sum ≤ 8) (h : Ct l g M2 (vR b :: [a1, a2]) X (fun _ X2 => G l g M κ K (pc + 3) lv (r) X2)) : G l g M κ K pc lv (a2 :: a1 :: vR b :: r) X :=
  g_callV (as := [a1, a2]) hd hml hC rfl hb h9 hci hR hw (by simpa only [if_pos hrt] using h)
theorem g_cs2v {l : Launch} {g : Geo} {M : Me} {κ : Kx} {K : AV → Mm → Prop} {pc : Nat} {lv : Lv} {X : Mm} {r : List AV} {M2 : Me} {a1 a2 : AV} {idx : Nat} (hd : decode M.2.1 pc = .ok (.invokestatic idx, 3)) (hml : Cond.methodLink M.1.cls idx M2.1 ∈ TB) (hC : CalS M2 2) (hcl : M2.1.cls = M.1.cls) (hrt : M2.2.2.2.1 = none) (hR : Rm M M2) (hw : (r.map cat).sum ≤ 8) (h : Ct l g M2 [a1, a2] X (fun _ X2 => G l g M κ K (pc + 3) lv (r) X2)) : G l g M κ K pc lv (a2 :: a1 :: r) X :=
  g_callS (as := [a1, a2]) hd hml hC hcl rfl hR hw (by simpa only [if_pos hrt] using h)
theorem g_cv3 {l : Launch} {g : Geo} {M : Me} {κ : Kx} {K : AV → Mm → Prop} {pc : Nat} {lv : Lv} {X : Mm} {r : List AV} {M2 : Me} {a1 a2 a3 : AV} {b ci idx N : Nat} {T : u_T} (hd : decode M.2.1 pc = .ok (.invokevirtual idx, 3)) (hml : Cond.methodLink M.1.cls idx M2.1 ∈ TB) (hC : CalV M2 3) (hrt : ¬ M2.2.2.2.1 = none) (hb : kd b = ci) (h9 : ci < 9) (hci : vwCl[ci]? = some (M2.1.cls, T, N)) (hR : Rm M M2) (hw : (r.map cat).sum ≤ 8) (h : Ct l g M2 (vR b :: [a1, a2, a3]) X (fun v X2 => G l g M κ K (pc + 3) lv (v :: r) X2)) : G l g M κ K pc lv (a3 :: a2 :: a1 :: vR b :: r) X :=
  g_callV (as := [a1, a2, a3]) hd hml hC rfl hb h9 hci hR hw (by simpa only [if_neg hrt] using h)
theorem g_cs3 {l : Launch} {g : Geo} {M : Me} {κ : Kx} {K : AV → Mm → Prop} {pc : Nat} {lv : Lv} {X : Mm} {r : List AV} {M2 : Me} {a1 a2 a3 : AV} {idx : Nat} (hd : decode M.2.1 pc = .ok (.invokestatic idx, 3)) (hml : Cond.methodLink M.1.cls idx M2.1 ∈ TB) (hC : CalS M2 3) (hcl : M2.1.cls = M.1.cls) (hrt : ¬ M2.2.2.2.1 = none) (hR : Rm M M2) (hw : (r.map cat).sum ≤ 8) (h : Ct l g M2 [a1, a2, a3] X (fun v X2 => G l g M κ K (pc + 3) lv (v :: r) X2)) : G l g M κ K pc lv (a3 :: a2 :: a1 :: r) X :=
  g_callS (as := [a1, a2, a3]) hd hml hC hcl rfl hR hw (by simpa only [if_neg hrt] using h)
theorem g_cn3 {l : Launch} {g : Geo} {M : Me} {κ : Kx} {K : AV → Mm → Prop} {pc : Nat} {lv : Lv} {X : Mm} {r : List AV} {M2 : Me} {a1 a2 a3 : AV} {idx : Nat} (hd : decode M.2.1 pc = .ok (.invokestatic idx, 3)) (hml : ∀ U : State, NW U → va_Nw (.methodLinkNest M.1.cls idx M2.1 RX7) U) (hC : CalS M2 3) (hrt : ¬ M2.2.2.2.1 = none) (hR : Rm M M2) (hw : (r.map cat).sum ≤ 8) (h : Ct l g M2 [a1, a2, a3] X (fun v X2 => G l g M κ K (pc + 3) lv (v :: r) X2)) : G l g M κ K pc lv (a3 :: a2 :: a1 :: r) X :=
  g_callN (as := [a1, a2, a3]) hd hml hC rfl hR hw (by simpa only [if_neg hrt] using h)
theorem g_cv3v {l : Launch} {g : Geo} {M : Me} {κ : Kx} {K : AV → Mm → Prop} {pc : Nat} {lv : Lv} {X : Mm} {r : List AV} {M2 : Me} {a1 a2 a3 : AV} {b ci idx N : Nat} {T : u_T} (hd : decode M.2.1 pc = .ok (.invokevirtual idx, 3)) (hml : Cond.methodLink M.1.cls idx M2.1 ∈ TB) (hC : CalV M2 3) (hrt : M2.2.2.2.1 = none) (hb : kd b = ci) (h9 : ci < 9) (hci : vwCl[ci]? = some (M2.1.cls, T, N)) (hR : Rm M M2) (hw : (r.map cat).sum ≤ 8) (h : Ct l g M2 (vR b :: [a1, a2, a3]) X (fun _ X2 => G l g M κ K (pc + 3) lv (r) X2)) : G l g M κ K pc lv (a3 :: a2 :: a1 :: vR b :: r) X :=
  g_callV (as := [a1, a2, a3]) hd hml hC rfl hb h9 hci hR hw (by simpa only [if_pos hrt] using h)
theorem g_cs3v {l : Launch} {g : Geo} {M : Me} {κ : Kx} {K : AV → Mm → Prop} {pc : Nat} {lv : Lv} {X : Mm} {r : List AV} {M2 : Me} {a1 a2 a3 : AV} {idx : Nat} (hd : decode M.2.1 pc = .ok (.invokestatic idx, 3)) (hml : Cond.methodLink M.1.cls idx M2.1 ∈ TB) (hC : CalS M2 3) (hcl : M2.1.cls = M.1.cls) (hrt : M2.2.2.2.1 = none) (hR : Rm M M2) (hw : (r.map cat).sum ≤ 8) (h : Ct l g M2 [a1, a2, a3] X (fun _ X2 => G l g M κ K (pc + 3) lv (r) X2)) : G l g M κ K pc lv (a3 :: a2 :: a1 :: r) X :=
  g_callS (as := [a1, a2, a3]) hd hml hC hcl rfl hR hw (by simpa only [if_pos hrt] using h)
theorem g_cv4 {l : Launch} {g : Geo} {M : Me} {κ : Kx} {K : AV → Mm → Prop} {pc : Nat} {lv : Lv} {X : Mm} {r : List AV} {M2 : Me} {a1 a2 a3 a4 : AV} {b ci idx N : Nat} {T : u_T} (hd : decode M.2.1 pc = .ok (.invokevirtual idx, 3)) (hml : Cond.methodLink M.1.cls idx M2.1 ∈ TB) (hC : CalV M2 4) (hrt : ¬ M2.2.2.2.1 = none) (hb : kd b = ci) (h9 : ci < 9) (hci : vwCl[ci]? = some (M2.1.cls, T, N)) (hR : Rm M M2) (hw : (r.map cat).sum ≤ 8) (h : Ct l g M2 (vR b :: [a1, a2, a3, a4]) X (fun v X2 => G l g M κ K (pc + 3) lv (v :: r) X2)) : G l g M κ K pc lv (a4 :: a3 :: a2 :: a1 :: vR b :: r) X :=
  g_callV (as := [a1, a2, a3, a4]) hd hml hC rfl hb h9 hci hR hw (by simpa only [if_neg hrt] using h)
theorem g_cs4 {l : Launch} {g : Geo} {M : Me} {κ : Kx} {K : AV → Mm → Prop} {pc : Nat} {lv : Lv} {X : Mm} {r : List AV} {M2 : Me} {a1 a2 a3 a4 : AV} {idx : Nat} (hd : decode M.2.1 pc = .ok (.invokestatic idx, 3)) (hml : Cond.methodLink M.1.cls idx M2.1 ∈ TB) (hC : CalS M2 4) (hcl : M2.1.cls = M.1.cls) (hrt : ¬ M2.2.2.2.1 = none) (hR : Rm M M2) (hw : (r.map cat).sum ≤ 8) (h : Ct l g M2 [a1, a2, a3, a4] X (fun v X2 => G l g M κ K (pc + 3) lv (v :: r) X2)) : G l g M κ K pc lv (a4 :: a3 :: a2 :: a1 :: r) X :=
  g_callS (as := [a1, a2, a3, a4]) hd hml hC hcl rfl hR hw (by simpa only [if_neg hrt] using h)
theorem g_cn4 {l : Launch} {g : Geo} {M : Me} {κ : Kx} {K : AV → Mm → Prop} {pc : Nat} {lv : Lv} {X : Mm} {r : List AV} {M2 : Me} {a1 a2 a3 a4 : AV} {idx : Nat} (hd : decode M.2.1 pc = .ok (.invokestatic idx, 3)) (hml : ∀ U : State, NW U → va_Nw (.methodLinkNest M.1.cls idx M2.1 RX7) U) (hC : CalS M2 4) (hrt : ¬ M2.2.2.2.1 = none) (hR : Rm M M2) (hw : (r.map cat).sum ≤ 8) (h : Ct l g M2 [a1, a2, a3, a4] X (fun v X2 => G l g M κ K (pc + 3) lv (v :: r) X2)) : G l g M κ K pc lv (a4 :: a3 :: a2 :: a1 :: r) X :=
  g_callN (as := [a1, a2, a3, a4]) hd hml hC rfl hR hw (by simpa only [if_neg hrt] using h)
theorem g_cv4v {l : Launch} {g : Geo} {M : Me} {κ : Kx} {K : AV → Mm → Prop} {pc : Nat} {lv : Lv} {X : Mm} {r : List AV} {M2 : Me} {a1 a2 a3 a4 : AV} {b ci idx N : Nat} {T : u_T} (hd : decode M.2.1 pc = .ok (.invokevirtual idx, 3)) (hml : Cond.methodLink M.1.cls idx M2.1 ∈ TB) (hC : CalV M2 4) (hrt : M2.2.2.2.1 = none) (hb : kd b = ci) (h9 : ci < 9) (hci : vwCl[ci]? = some (M2.1.cls, T, N)) (hR : Rm M M2) (hw : (r.map cat).sum ≤ 8) (h : Ct l g M2 (vR b :: [a1, a2, a3, a4]) X (fun _ X2 => G l g M κ K (pc + 3) lv (r) X2)) : G l g M κ K pc lv (a4 :: a3 :: a2 :: a1 :: vR b :: r) X :=
  g_callV (as := [a1, a2, a3, a4]) hd hml hC rfl hb h9 hci hR hw (by simpa only [if_pos hrt] using h)
theorem g_cs4v {l : Launch} {g : Geo} {M : Me} {κ : Kx} {K : AV → Mm → Prop} {pc : Nat} {lv : Lv} {X : Mm} {r : List AV} {M2 : Me} {a1 a2 a3 a4 : AV} {idx : Nat} (hd : decode M.2.1 pc = .ok (.invokestatic idx, 3)) (hml : Cond.methodLink M.1.cls idx M2.1 ∈ TB) (hC : CalS M2 4) (hcl : M2.1.cls = M.1.cls) (hrt : M2.2.2.2.1 = none) (hR : Rm M M2) (hw : (r.map cat).sum ≤ 8) (h : Ct l g M2 [a1, a2, a3, a4] X (fun _ X2 => G l g M κ K (pc + 3) lv (r) X2)) : G l g M κ K pc lv (a4 :: a3 :: a2 :: a1 :: r) X :=
  g_callS (as := [a1, a2, a3, a4]) hd hml hC hcl rfl hR hw (by simpa only [if_pos hrt] using h)
theorem g_get {l : Launch} {g : Geo} {M : Me} {κ : Kx} {K : AV → Mm → Prop} {pc : Nat} {lv : Lv} {X : Mm} {r : List AV} {c ci idx k N : Nat} {C : String} {T : u_T} {v : AV} (hc : kd c = ci) (h9 : ci < 9) (hcl : vwCl[ci]? = some (C, T, N)) (hN : N = cN ci) (hk : k < N) (hlay : ∀ w ∈ u_ws C T N, w ∈ TB) (hlk : Cond.fieldLink M.1.cls idx (T k).1 (T k).2.1 (T k).2.2.1 ∈ TB) (hv : fv g c ci k (X c) = cv g v) (hd : decode M.2.1 pc = .ok (.getfield idx, 3)) (kk : G l g M κ K (pc + 3) lv (v :: r) X) : G l g M κ K pc lv (vR c :: r) X := by
  obtain ⟨p, e, s, m, args, below, meth, co, A, Q, kc, ks⟩ := κ
  intro O H locs ls hP hS hl
  have hws := wl_at g X (kd_lt hc (by omega))
  rw [ce_o hc h9] at hws
  exact va_get (ci := ci) (v := cv g v) (C := C) (T := T) (N := N) O.1 O.2.1 O.2.2.2.2.1 hlay O.2.2.2.1 O.2.2.2.2.2.1 hP c hws hcl k hk (O.2.2.2.2.1 _ hlk) (fun _ h => h) (by rw [← hv]; exact fl_at g c ci (X c) (by omega)) hd (kk O H locs ls hP hS hl)
theorem g_put {l : Launch} {g : Geo} {M : Me} {κ : Kx} {K : AV → Mm → Prop} {pc : Nat} {lv : Lv} {X : Mm} {r : List AV} {c ci idx k N : Nat} {C : String} {T : u_T} {ty0 : Nat → FieldType} {ty : FieldType} {v : AV} {n : Int} (hc : kd c = ci) (h9 : ci < 9) (hcl : vwCl[ci]? = some (C, T, N)) (hN : N = cN ci) (hk : k < N) (hlay : ∀ w ∈ u_ws C T N, w ∈ TB) (hty : ∀ k, k < N → parseFieldDescriptor (T k).2.2.1 = some (ty0 k)) (hnm : ∀ a, a < N → ∀ b, b < N → a ≠ b → (T a).2.1 ≠ (T b).2.1) (hlk : Cond.fieldLink M.1.cls idx (T k).1 (T k).2.1 (T k).2.2.1 ∈ TB) (hfin : (T k).2.2.2 = false) (hde : parseFieldDescriptor (T k).2.2.1 = some ty) (hv : fv g c ci k (fun j => if j = k then n else X c j) = cv g v) (hn : narrow ty (cv g v) = cv g v) (hf : fits ty (cv g v) = true) (hd : decode M.2.1 pc = .ok (.putfield idx, 3)) (kk : G l g M κ K (pc + 3) lv r (st2 X c k n)) : G l g M κ K pc lv (v :: vR c :: r) X := by
  obtain ⟨p, e, s, m, args, below, meth, co, A, Q, kc, ks⟩ := κ
  intro O H locs ls hP hS hl
  have h70 := kd_lt hc (by omega)
  have hws := wl_at g X h70
  rw [ce_o hc h9] at hws
  refine va_put (ci := ci) (v := cv g v) (ty := ty) (C := C) (T := T) (N := N) O.1 O.2.1 O.2.2.2.2.1 hlay ty0 hty hnm O.2.2.2.1 O.2.2.2.2.2.1 hP (wl_D O.2.2.2.2.2.2.2.1 X (fun i hi => O.2.2.2.2.2.2.2.2.1 _ (Or.inl ⟨i, hi, rfl⟩))) hS c hws hcl k hk (O.2.2.2.2.1 _ hlk) (fun _ h => h) hfin hde hn hf (by rw [show (fl g c ci (X c)).length = cN ci by simp [fl]]; omega) hd (fun H1 locs1 hP1 hD1 hS1 => ?_)
  rw [← hv, wl_set g X n h70 (j := k) (by rw [ce_o hc h9, fl_set g c ci (X c) n (by omega)])] at hP1
  exact kk O H1 locs1 ls hP1 hS1 hl
theorem fit_z {v : Int} (h : v = 0 ∨ v = 1) : fits .boolean (.int (Int32.ofInt v)) = true := by
  rcases h with rfl | rfl <;> rfl
theorem gf_X0_9 {l : Launch} {g : Geo} {M : Me} {κ : Kx} {K : AV → Mm → Prop} {pc : Nat} {lv : Lv} {X : Mm} {r : List AV} {c : Nat} {c2 : Nat} (h2 : c + 1 = c2) (hM : M.1.cls = RX0) (hc : kd c = 0) (hd : decode M.2.1 pc = .ok (.getfield 9, 3)) (k : G l g M κ K (pc + 3) lv (vR c2 :: r) X) : G l g M κ K pc lv (vR c :: r) X := by
  subst h2
  exact g_get (k := 1) hc (by decide) (show vwCl[0]? = some (RX0, TX0, 2) from rfl) rfl (by decide) lay_X0 (by rw [hM]; exact fl_RX0_9) rfl hd k
theorem gf_X0_15 {l : Launch} {g : Geo} {M : Me} {κ : Kx} {K : AV → Mm → Prop} {pc : Nat} {lv : Lv} {X : Mm} {r : List AV} {c : Nat} (hM : M.1.cls = RX0) (hc : kd c = 3) (hd : decode M.2.1 pc = .ok (.getfield 15, 3)) (k : G l g M κ K (pc + 3) lv (vI (X c 0) :: r) X) : G l g M κ K pc lv (vR c :: r) X := g_get (k := 0) hc (by decide) (show vwCl[3]? = some (RX3, TX3, 9) from rfl) rfl (by decide) lay_X3 (by rw [hM]; exact fl_RX0_15) rfl hd k
theorem gf_X0_21 {l : Launch} {g : Geo} {M : Me} {κ : Kx} {K : AV → Mm → Prop} {pc : Nat} {lv : Lv} {X : Mm} {r : List AV} {c : Nat} (hM : M.1.cls = RX0) (hc : kd c = 0) (hd : decode M.2.1 pc = .ok (.getfield 21, 3)) (k : G l g M κ K (pc + 3) lv (vI (X c 0) :: r) X) : G l g M κ K pc lv (vR c :: r) X := g_get (k := 0) hc (by decide) (show vwCl[0]? = some (RX0, TX0, 2) from rfl) rfl (by decide) lay_X0 (by rw [hM]; exact fl_RX0_21) rfl hd k
theorem gf_X0_22 {l : Launch} {g : Geo} {M : Me} {κ : Kx} {K : AV → Mm → Prop} {pc : Nat} {lv : Lv} {X : Mm} {r : List AV} {c : Nat} {c2 : Nat} (h2 : c + 3 = c2) (hM : M.1.cls = RX0) (hc : kd c = 3) (hd : decode M.2.1 pc = .ok (.getfield 22, 3)) (k : G l g M κ K (pc + 3) lv (vR c2 :: r) X) : G l g M κ K pc lv (vR c :: r) X := by
  subst h2
  exact g_get (k := 6) hc (by decide) (show vwCl[3]? = some (RX3, TX3, 9) from rfl) rfl (by decide) lay_X3 (by rw [hM]; exact fl_RX0_22) rfl hd k
theorem gf_X0_25 {l : Launch} {g : Geo} {M : Me} {κ : Kx} {K : AV → Mm → Prop} {pc : Nat} {lv : Lv} {X : Mm} {r : List AV} {c : Nat} {c2 : Nat} (h2 : c + 4 = c2) (hM : M.1.cls = RX0) (hc : kd c = 3) (hd : decode M.2.1 pc = .ok (.getfield 25, 3)) (k : G l g M κ K (pc + 3) lv (vR c2 :: r) X) : G l g M κ K pc lv (vR c :: r) X := by
  subst h2
  exact g_get (k := 7) hc (by decide) (show vwCl[3]? = some (RX3, TX3, 9) from rfl) rfl (by decide) lay_X3 (by rw [hM]; exact fl_RX0_25) rfl hd k
theorem gf_X1_9 {l : Launch} {g : Geo} {M : Me} {κ : Kx} {K : AV → Mm → Prop} {pc : Nat} {lv : Lv} {X : Mm} {r : List AV} {c : Nat} {c2 : Nat} (h2 : c + 1 = c2) (hM : M.1.cls = RX1) (hc : kd c = 1) (hd : decode M.2.1 pc = .ok (.getfield 9, 3)) (k : G l g M κ K (pc + 3) lv (vR c2 :: r) X) : G l g M κ K pc lv (vR c :: r) X := by
  subst h2
  exact g_get (k := 1) hc (by decide) (show vwCl[1]? = some (RX1, TX1, 6) from rfl) rfl (by decide) lay_X1 (by rw [hM]; exact fl_RX1_9) rfl hd k
theorem gf_X1_15 {l : Launch} {g : Geo} {M : Me} {κ : Kx} {K : AV → Mm → Prop} {pc : Nat} {lv : Lv} {X : Mm} {r : List AV} {c : Nat} {c2 : Nat} (h2 : c + 2 = c2) (hM : M.1.cls = RX1) (hc : kd c = 1) (hd : decode M.2.1 pc = .ok (.getfield 15, 3)) (k : G l g M κ K (pc + 3) lv (vR c2 :: r) X) : G l g M κ K pc lv (vR c :: r) X := by
  subst h2
  exact g_get (k := 2) hc (by decide) (show vwCl[1]? = some (RX1, TX1, 6) from rfl) rfl (by decide) lay_X1 (by rw [hM]; exact fl_RX1_15) rfl hd k
theorem gf_X1_18 {l : Launch} {g : Geo} {M : Me} {κ : Kx} {K : AV → Mm → Prop} {pc : Nat} {lv : Lv} {X : Mm} {r : List AV} {c : Nat} {c2 : Nat} (h2 : c + 3 = c2) (hM : M.1.cls = RX1) (hc : kd c = 1) (hd : decode M.2.1 pc = .ok (.getfield 18, 3)) (k : G l g M κ K (pc + 3) lv (vR c2 :: r) X) : G l g M κ K pc lv (vR c :: r) X := by
  subst h2
  exact g_get (k := 3) hc (by decide) (show vwCl[1]? = some (RX1, TX1, 6) from rfl) rfl (by decide) lay_X1 (by rw [hM]; exact fl_RX1_18) rfl hd k
theorem gf_X1_21 {l : Launch} {g : Geo} {M : Me} {κ : Kx} {K : AV → Mm → Prop} {pc : Nat} {lv : Lv} {X : Mm} {r : List AV} {c : Nat} {c2 : Nat} (h2 : c + 4 = c2) (hM : M.1.cls = RX1) (hc : kd c = 1) (hd : decode M.2.1 pc = .ok (.getfield 21, 3)) (k : G l g M κ K (pc + 3) lv (vR c2 :: r) X) : G l g M κ K pc lv (vR c :: r) X := by
  subst h2
  exact g_get (k := 4) hc (by decide) (show vwCl[1]? = some (RX1, TX1, 6) from rfl) rfl (by decide) lay_X1 (by rw [hM]; exact fl_RX1_21) rfl hd k
theorem gf_X1_24 {l : Launch} {g : Geo} {M : Me} {κ : Kx} {K : AV → Mm → Prop} {pc : Nat} {lv : Lv} {X : Mm} {r : List AV} {c : Nat} {c2 : Nat} (h2 : c + 5 = c2) (hM : M.1.cls = RX1) (hc : kd c = 1) (hd : decode M.2.1 pc = .ok (.getfield 24, 3)) (k : G l g M κ K (pc + 3) lv (vR c2 :: r) X) : G l g M κ K pc lv (vR c :: r) X := by
  subst h2
  exact g_get (k := 5) hc (by decide) (show vwCl[1]? = some (RX1, TX1, 6) from rfl) rfl (by decide) lay_X1 (by rw [hM]; exact fl_RX1_24) rfl hd k
theorem gf_X1_31 {l : Launch} {g : Geo} {M : Me} {κ : Kx} {K : AV → Mm → Prop} {pc : Nat} {lv : Lv} {X : Mm} {r : List AV} {c : Nat} (hM : M.1.cls = RX1) (hc : kd c = 1) (hd : decode M.2.1 pc = .ok (.getfield 31, 3)) (k : G l g M κ K (pc + 3) lv (vI (X c 0) :: r) X) : G l g M κ K pc lv (vR c :: r) X := g_get (k := 0) hc (by decide) (show vwCl[1]? = some (RX1, TX1, 6) from rfl) rfl (by decide) lay_X1 (by rw [hM]; exact fl_RX1_31) rfl hd k
theorem gf_X1_42 {l : Launch} {g : Geo} {M : Me} {κ : Kx} {K : AV → Mm → Prop} {pc : Nat} {lv : Lv} {X : Mm} {r : List AV} {c : Nat} (hM : M.1.cls = RX1) (hc : kd c = 6) (hd : decode M.2.1 pc = .ok (.getfield 42, 3)) (k : G l g M κ K (pc + 3) lv (vI (X c 0) :: r) X) : G l g M κ K pc lv (vR c :: r) X := g_get (k := 0) hc (by decide) (show vwCl[6]? = some (RX6, TX6, 7) from rfl) rfl (by decide) lay_X6 (by rw [hM]; exact fl_RX1_42) rfl hd k
theorem gf_X1_45 {l : Launch} {g : Geo} {M : Me} {κ : Kx} {K : AV → Mm → Prop} {pc : Nat} {lv : Lv} {X : Mm} {r : List AV} {c : Nat} {c2 : Nat} (h2 : c + 2 = c2) (hM : M.1.cls = RX1) (hc : kd c = 6) (hd : decode M.2.1 pc = .ok (.getfield 45, 3)) (k : G l g M κ K (pc + 3) lv (vR c2 :: r) X) : G l g M κ K pc lv (vR c :: r) X := by
  subst h2
  exact g_get (k := 3) hc (by decide) (show vwCl[6]? = some (RX6, TX6, 7) from rfl) rfl (by decide) lay_X6 (by rw [hM]; exact fl_RX1_45) rfl hd k
theorem gf_X1_49 {l : Launch} {g : Geo} {M : Me} {κ : Kx} {K : AV → Mm → Prop} {pc : Nat} {lv : Lv} {X : Mm} {r : List AV} {c : Nat} {c2 : Nat} (h2 : c + 4 = c2) (hM : M.1.cls = RX1) (hc : kd c = 6) (hd : decode M.2.1 pc = .ok (.getfield 49, 3)) (k : G l g M κ K (pc + 3) lv (vR c2 :: r) X) : G l g M κ K pc lv (vR c :: r) X := by
  subst h2
  exact g_get (k := 5) hc (by decide) (show vwCl[6]? = some (RX6, TX6, 7) from rfl) rfl (by decide) lay_X6 (by rw [hM]; exact fl_RX1_49) rfl hd k
theorem gf_X1_52 {l : Launch} {g : Geo} {M : Me} {κ : Kx} {K : AV → Mm → Prop} {pc : Nat} {lv : Lv} {X : Mm} {r : List AV} {c : Nat} {c2 : Nat} (h2 : c + 1 = c2) (hM : M.1.cls = RX1) (hc : kd c = 6) (hd : decode M.2.1 pc = .ok (.getfield 52, 3)) (k : G l g M κ K (pc + 3) lv (vR c2 :: r) X) : G l g M κ K pc lv (vR c :: r) X := by
  subst h2
  exact g_get (k := 2) hc (by decide) (show vwCl[6]? = some (RX6, TX6, 7) from rfl) rfl (by decide) lay_X6 (by rw [hM]; exact fl_RX1_52) rfl hd k
theorem gf_X2_9 {l : Launch} {g : Geo} {M : Me} {κ : Kx} {K : AV → Mm → Prop} {pc : Nat} {lv : Lv} {X : Mm} {r : List AV} {c : Nat} {c2 : Nat} (h2 : c + 1 = c2) (hM : M.1.cls = RX2) (hc : kd c = 2) (hd : decode M.2.1 pc = .ok (.getfield 9, 3)) (k : G l g M κ K (pc + 3) lv (vR c2 :: r) X) : G l g M κ K pc lv (vR c :: r) X := by
  subst h2
  exact g_get (k := 2) hc (by decide) (show vwCl[2]? = some (RX2, TX2, 6) from rfl) rfl (by decide) lay_X2 (by rw [hM]; exact fl_RX2_9) rfl hd k
theorem gf_X2_15 {l : Launch} {g : Geo} {M : Me} {κ : Kx} {K : AV → Mm → Prop} {pc : Nat} {lv : Lv} {X : Mm} {r : List AV} {c : Nat} {c2 : Nat} (h2 : c + 2 = c2) (hM : M.1.cls = RX2) (hc : kd c = 2) (hd : decode M.2.1 pc = .ok (.getfield 15, 3)) (k : G l g M κ K (pc + 3) lv (vR c2 :: r) X) : G l g M κ K pc lv (vR c :: r) X := by
  subst h2
  exact g_get (k := 3) hc (by decide) (show vwCl[2]? = some (RX2, TX2, 6) from rfl) rfl (by decide) lay_X2 (by rw [hM]; exact fl_RX2_15) rfl hd k
theorem gf_X2_19 {l : Launch} {g : Geo} {M : Me} {κ : Kx} {K : AV → Mm → Prop} {pc : Nat} {lv : Lv} {X : Mm} {r : List AV} {c : Nat} {c2 : Nat} (h2 : c + 3 = c2) (hM : M.1.cls = RX2) (hc : kd c = 2) (hd : decode M.2.1 pc = .ok (.getfield 19, 3)) (k : G l g M κ K (pc + 3) lv (vR c2 :: r) X) : G l g M κ K pc lv (vR c :: r) X := by
  subst h2
  exact g_get (k := 4) hc (by decide) (show vwCl[2]? = some (RX2, TX2, 6) from rfl) rfl (by decide) lay_X2 (by rw [hM]; exact fl_RX2_19) rfl hd k
theorem gf_X2_22 {l : Launch} {g : Geo} {M : Me} {κ : Kx} {K : AV → Mm → Prop} {pc : Nat} {lv : Lv} {X : Mm} {r : List AV} {c : Nat} {c2 : Nat} (h2 : c + 4 = c2) (hM : M.1.cls = RX2) (hc : kd c = 2) (hd : decode M.2.1 pc = .ok (.getfield 22, 3)) (k : G l g M κ K (pc + 3) lv (vR c2 :: r) X) : G l g M κ K pc lv (vR c :: r) X := by
  subst h2
  exact g_get (k := 5) hc (by decide) (show vwCl[2]? = some (RX2, TX2, 6) from rfl) rfl (by decide) lay_X2 (by rw [hM]; exact fl_RX2_22) rfl hd k
theorem gf_X2_25 {l : Launch} {g : Geo} {M : Me} {κ : Kx} {K : AV → Mm → Prop} {pc : Nat} {lv : Lv} {X : Mm} {r : List AV} {c : Nat} (hM : M.1.cls = RX2) (hc : kd c = 3) (hd : decode M.2.1 pc = .ok (.getfield 25, 3)) (k : G l g M κ K (pc + 3) lv (vI (X c 0) :: r) X) : G l g M κ K pc lv (vR c :: r) X := g_get (k := 0) hc (by decide) (show vwCl[3]? = some (RX3, TX3, 9) from rfl) rfl (by decide) lay_X3 (by rw [hM]; exact fl_RX2_25) rfl hd k
theorem gf_X2_31 {l : Launch} {g : Geo} {M : Me} {κ : Kx} {K : AV → Mm → Prop} {pc : Nat} {lv : Lv} {X : Mm} {r : List AV} {c : Nat} (hM : M.1.cls = RX2) (hc : kd c = 2) (hd : decode M.2.1 pc = .ok (.getfield 31, 3)) (k : G l g M κ K (pc + 3) lv (vI (X c 0) :: r) X) : G l g M κ K pc lv (vR c :: r) X := g_get (k := 0) hc (by decide) (show vwCl[2]? = some (RX2, TX2, 6) from rfl) rfl (by decide) lay_X2 (by rw [hM]; exact fl_RX2_31) rfl hd k
theorem gf_X2_32 {l : Launch} {g : Geo} {M : Me} {κ : Kx} {K : AV → Mm → Prop} {pc : Nat} {lv : Lv} {X : Mm} {r : List AV} {c : Nat} (hM : M.1.cls = RX2) (hc : kd c = 2) (hd : decode M.2.1 pc = .ok (.getfield 32, 3)) (k : G l g M κ K (pc + 3) lv (vI (X c 1) :: r) X) : G l g M κ K pc lv (vR c :: r) X := g_get (k := 1) hc (by decide) (show vwCl[2]? = some (RX2, TX2, 6) from rfl) rfl (by decide) lay_X2 (by rw [hM]; exact fl_RX2_32) rfl hd k
theorem gf_X2_52 {l : Launch} {g : Geo} {M : Me} {κ : Kx} {K : AV → Mm → Prop} {pc : Nat} {lv : Lv} {X : Mm} {r : List AV} {c : Nat} {c2 : Nat} (h2 : c + 4 = c2) (hM : M.1.cls = RX2) (hc : kd c = 3) (hd : decode M.2.1 pc = .ok (.getfield 52, 3)) (k : G l g M κ K (pc + 3) lv (vR c2 :: r) X) : G l g M κ K pc lv (vR c :: r) X := by
  subst h2
  exact g_get (k := 7) hc (by decide) (show vwCl[3]? = some (RX3, TX3, 9) from rfl) rfl (by decide) lay_X3 (by rw [hM]; exact fl_RX2_52) rfl hd k
theorem gf_X2_55 {l : Launch} {g : Geo} {M : Me} {κ : Kx} {K : AV → Mm → Prop} {pc : Nat} {lv : Lv} {X : Mm} {r : List AV} {c : Nat} {c2 : Nat} (h2 : c + 3 = c2) (hM : M.1.cls = RX2) (hc : kd c = 3) (hd : decode M.2.1 pc = .ok (.getfield 55, 3)) (k : G l g M κ K (pc + 3) lv (vR c2 :: r) X) : G l g M κ K pc lv (vR c :: r) X := by
  subst h2
  exact g_get (k := 6) hc (by decide) (show vwCl[3]? = some (RX3, TX3, 9) from rfl) rfl (by decide) lay_X3 (by rw [hM]; exact fl_RX2_55) rfl hd k
theorem gf_X3_9 {l : Launch} {g : Geo} {M : Me} {κ : Kx} {K : AV → Mm → Prop} {pc : Nat} {lv : Lv} {X : Mm} {r : List AV} {c : Nat} {c2 : Nat} (h2 : c + 1 = c2) (hM : M.1.cls = RX3) (hc : kd c = 3) (hd : decode M.2.1 pc = .ok (.getfield 9, 3)) (k : G l g M κ K (pc + 3) lv (vR c2 :: r) X) : G l g M κ K pc lv (vR c :: r) X := by
  subst h2
  exact g_get (k := 4) hc (by decide) (show vwCl[3]? = some (RX3, TX3, 9) from rfl) rfl (by decide) lay_X3 (by rw [hM]; exact fl_RX3_9) rfl hd k
theorem gf_X3_15 {l : Launch} {g : Geo} {M : Me} {κ : Kx} {K : AV → Mm → Prop} {pc : Nat} {lv : Lv} {X : Mm} {r : List AV} {c : Nat} {c2 : Nat} (h2 : c + 2 = c2) (hM : M.1.cls = RX3) (hc : kd c = 3) (hd : decode M.2.1 pc = .ok (.getfield 15, 3)) (k : G l g M κ K (pc + 3) lv (vR c2 :: r) X) : G l g M κ K pc lv (vR c :: r) X := by
  subst h2
  exact g_get (k := 5) hc (by decide) (show vwCl[3]? = some (RX3, TX3, 9) from rfl) rfl (by decide) lay_X3 (by rw [hM]; exact fl_RX3_15) rfl hd k
theorem gf_X3_18 {l : Launch} {g : Geo} {M : Me} {κ : Kx} {K : AV → Mm → Prop} {pc : Nat} {lv : Lv} {X : Mm} {r : List AV} {c : Nat} {c2 : Nat} (h2 : c + 3 = c2) (hM : M.1.cls = RX3) (hc : kd c = 3) (hd : decode M.2.1 pc = .ok (.getfield 18, 3)) (k : G l g M κ K (pc + 3) lv (vR c2 :: r) X) : G l g M κ K pc lv (vR c :: r) X := by
  subst h2
  exact g_get (k := 6) hc (by decide) (show vwCl[3]? = some (RX3, TX3, 9) from rfl) rfl (by decide) lay_X3 (by rw [hM]; exact fl_RX3_18) rfl hd k
theorem gf_X3_21 {l : Launch} {g : Geo} {M : Me} {κ : Kx} {K : AV → Mm → Prop} {pc : Nat} {lv : Lv} {X : Mm} {r : List AV} {c : Nat} {c2 : Nat} (h2 : c + 4 = c2) (hM : M.1.cls = RX3) (hc : kd c = 3) (hd : decode M.2.1 pc = .ok (.getfield 21, 3)) (k : G l g M κ K (pc + 3) lv (vR c2 :: r) X) : G l g M κ K pc lv (vR c :: r) X := by
  subst h2
  exact g_get (k := 7) hc (by decide) (show vwCl[3]? = some (RX3, TX3, 9) from rfl) rfl (by decide) lay_X3 (by rw [hM]; exact fl_RX3_21) rfl hd k
theorem gf_X3_24 {l : Launch} {g : Geo} {M : Me} {κ : Kx} {K : AV → Mm → Prop} {pc : Nat} {lv : Lv} {X : Mm} {r : List AV} {c : Nat} {c2 : Nat} (h2 : c + 5 = c2) (hM : M.1.cls = RX3) (hc : kd c = 3) (hd : decode M.2.1 pc = .ok (.getfield 24, 3)) (k : G l g M κ K (pc + 3) lv (vR c2 :: r) X) : G l g M κ K pc lv (vR c :: r) X := by
  subst h2
  exact g_get (k := 8) hc (by decide) (show vwCl[3]? = some (RX3, TX3, 9) from rfl) rfl (by decide) lay_X3 (by rw [hM]; exact fl_RX3_24) rfl hd k
theorem gf_X3_28 {l : Launch} {g : Geo} {M : Me} {κ : Kx} {K : AV → Mm → Prop} {pc : Nat} {lv : Lv} {X : Mm} {r : List AV} {c : Nat} (hM : M.1.cls = RX3) (hc : kd c = 4) (hd : decode M.2.1 pc = .ok (.getfield 28, 3)) (k : G l g M κ K (pc + 3) lv (vI (X c 0) :: r) X) : G l g M κ K pc lv (vR c :: r) X := g_get (k := 0) hc (by decide) (show vwCl[4]? = some (RX4, TX4, 4) from rfl) rfl (by decide) lay_X4 (by rw [hM]; exact fl_RX3_28) rfl hd k
theorem gf_X3_34 {l : Launch} {g : Geo} {M : Me} {κ : Kx} {K : AV → Mm → Prop} {pc : Nat} {lv : Lv} {X : Mm} {r : List AV} {c : Nat} (hM : M.1.cls = RX3) (hc : kd c = 3) (hd : decode M.2.1 pc = .ok (.getfield 34, 3)) (k : G l g M κ K (pc + 3) lv (vI (X c 0) :: r) X) : G l g M κ K pc lv (vR c :: r) X := g_get (k := 0) hc (by decide) (show vwCl[3]? = some (RX3, TX3, 9) from rfl) rfl (by decide) lay_X3 (by rw [hM]; exact fl_RX3_34) rfl hd k
theorem gf_X3_35 {l : Launch} {g : Geo} {M : Me} {κ : Kx} {K : AV → Mm → Prop} {pc : Nat} {lv : Lv} {X : Mm} {r : List AV} {c : Nat} (hM : M.1.cls = RX3) (hc : kd c = 3) (hd : decode M.2.1 pc = .ok (.getfield 35, 3)) (k : G l g M κ K (pc + 3) lv (vI (X c 1) :: r) X) : G l g M κ K pc lv (vR c :: r) X := g_get (k := 1) hc (by decide) (show vwCl[3]? = some (RX3, TX3, 9) from rfl) rfl (by decide) lay_X3 (by rw [hM]; exact fl_RX3_35) rfl hd k
theorem gf_X3_38 {l : Launch} {g : Geo} {M : Me} {κ : Kx} {K : AV → Mm → Prop} {pc : Nat} {lv : Lv} {X : Mm} {r : List AV} {c : Nat} (hM : M.1.cls = RX3) (hc : kd c = 3) (hd : decode M.2.1 pc = .ok (.getfield 38, 3)) (k : G l g M κ K (pc + 3) lv (vI (X c 2) :: r) X) : G l g M κ K pc lv (vR c :: r) X := g_get (k := 2) hc (by decide) (show vwCl[3]? = some (RX3, TX3, 9) from rfl) rfl (by decide) lay_X3 (by rw [hM]; exact fl_RX3_38) rfl hd k
theorem gf_X3_41 {l : Launch} {g : Geo} {M : Me} {κ : Kx} {K : AV → Mm → Prop} {pc : Nat} {lv : Lv} {X : Mm} {r : List AV} {c : Nat} (hM : M.1.cls = RX3) (hc : kd c = 3) (hd : decode M.2.1 pc = .ok (.getfield 41, 3)) (k : G l g M κ K (pc + 3) lv (vI (X c 3) :: r) X) : G l g M κ K pc lv (vR c :: r) X := g_get (k := 3) hc (by decide) (show vwCl[3]? = some (RX3, TX3, 9) from rfl) rfl (by decide) lay_X3 (by rw [hM]; exact fl_RX3_41) rfl hd k
theorem gf_X3_44 {l : Launch} {g : Geo} {M : Me} {κ : Kx} {K : AV → Mm → Prop} {pc : Nat} {lv : Lv} {X : Mm} {r : List AV} {c : Nat} {c2 : Nat} (h2 : c + 1 = c2) (hM : M.1.cls = RX3) (hc : kd c = 4) (hd : decode M.2.1 pc = .ok (.getfield 44, 3)) (k : G l g M κ K (pc + 3) lv (vR c2 :: r) X) : G l g M κ K pc lv (vR c :: r) X := by
  subst h2
  exact g_get (k := 1) hc (by decide) (show vwCl[4]? = some (RX4, TX4, 4) from rfl) rfl (by decide) lay_X4 (by rw [hM]; exact fl_RX3_44) rfl hd k
theorem gf_X3_45 {l : Launch} {g : Geo} {M : Me} {κ : Kx} {K : AV → Mm → Prop} {pc : Nat} {lv : Lv} {X : Mm} {r : List AV} {c : Nat} {c2 : Nat} (h2 : c + 2 = c2) (hM : M.1.cls = RX3) (hc : kd c = 4) (hd : decode M.2.1 pc = .ok (.getfield 45, 3)) (k : G l g M κ K (pc + 3) lv (vR c2 :: r) X) : G l g M κ K pc lv (vR c :: r) X := by
  subst h2
  exact g_get (k := 2) hc (by decide) (show vwCl[4]? = some (RX4, TX4, 4) from rfl) rfl (by decide) lay_X4 (by rw [hM]; exact fl_RX3_45) rfl hd k
theorem gf_X3_46 {l : Launch} {g : Geo} {M : Me} {κ : Kx} {K : AV → Mm → Prop} {pc : Nat} {lv : Lv} {X : Mm} {r : List AV} {c : Nat} {c2 : Nat} (h2 : c + 3 = c2) (hM : M.1.cls = RX3) (hc : kd c = 4) (hd : decode M.2.1 pc = .ok (.getfield 46, 3)) (k : G l g M κ K (pc + 3) lv (vR c2 :: r) X) : G l g M κ K pc lv (vR c :: r) X := by
  subst h2
  exact g_get (k := 3) hc (by decide) (show vwCl[4]? = some (RX4, TX4, 4) from rfl) rfl (by decide) lay_X4 (by rw [hM]; exact fl_RX3_46) rfl hd k
theorem gf_X4_9 {l : Launch} {g : Geo} {M : Me} {κ : Kx} {K : AV → Mm → Prop} {pc : Nat} {lv : Lv} {X : Mm} {r : List AV} {c : Nat} {c2 : Nat} (h2 : c + 1 = c2) (hM : M.1.cls = RX4) (hc : kd c = 4) (hd : decode M.2.1 pc = .ok (.getfield 9, 3)) (k : G l g M κ K (pc + 3) lv (vR c2 :: r) X) : G l g M κ K pc lv (vR c :: r) X := by
  subst h2
  exact g_get (k := 1) hc (by decide) (show vwCl[4]? = some (RX4, TX4, 4) from rfl) rfl (by decide) lay_X4 (by rw [hM]; exact fl_RX4_9) rfl hd k
theorem gf_X4_15 {l : Launch} {g : Geo} {M : Me} {κ : Kx} {K : AV → Mm → Prop} {pc : Nat} {lv : Lv} {X : Mm} {r : List AV} {c : Nat} {c2 : Nat} (h2 : c + 2 = c2) (hM : M.1.cls = RX4) (hc : kd c = 4) (hd : decode M.2.1 pc = .ok (.getfield 15, 3)) (k : G l g M κ K (pc + 3) lv (vR c2 :: r) X) : G l g M κ K pc lv (vR c :: r) X := by
  subst h2
  exact g_get (k := 2) hc (by decide) (show vwCl[4]? = some (RX4, TX4, 4) from rfl) rfl (by decide) lay_X4 (by rw [hM]; exact fl_RX4_15) rfl hd k
theorem gf_X4_18 {l : Launch} {g : Geo} {M : Me} {κ : Kx} {K : AV → Mm → Prop} {pc : Nat} {lv : Lv} {X : Mm} {r : List AV} {c : Nat} {c2 : Nat} (h2 : c + 3 = c2) (hM : M.1.cls = RX4) (hc : kd c = 4) (hd : decode M.2.1 pc = .ok (.getfield 18, 3)) (k : G l g M κ K (pc + 3) lv (vR c2 :: r) X) : G l g M κ K pc lv (vR c :: r) X := by
  subst h2
  exact g_get (k := 3) hc (by decide) (show vwCl[4]? = some (RX4, TX4, 4) from rfl) rfl (by decide) lay_X4 (by rw [hM]; exact fl_RX4_18) rfl hd k
theorem gf_X4_21 {l : Launch} {g : Geo} {M : Me} {κ : Kx} {K : AV → Mm → Prop} {pc : Nat} {lv : Lv} {X : Mm} {r : List AV} {c : Nat} (hM : M.1.cls = RX4) (hc : kd c = 4) (hd : decode M.2.1 pc = .ok (.getfield 21, 3)) (k : G l g M κ K (pc + 3) lv (vI (X c 0) :: r) X) : G l g M κ K pc lv (vR c :: r) X := g_get (k := 0) hc (by decide) (show vwCl[4]? = some (RX4, TX4, 4) from rfl) rfl (by decide) lay_X4 (by rw [hM]; exact fl_RX4_21) rfl hd k
theorem gf_X6_9 {l : Launch} {g : Geo} {M : Me} {κ : Kx} {K : AV → Mm → Prop} {pc : Nat} {lv : Lv} {X : Mm} {r : List AV} {c : Nat} {c2 : Nat} (h2 : c + 1 = c2) (hM : M.1.cls = RX6) (hc : kd c = 6) (hd : decode M.2.1 pc = .ok (.getfield 9, 3)) (k : G l g M κ K (pc + 3) lv (vR c2 :: r) X) : G l g M κ K pc lv (vR c :: r) X := by
  subst h2
  exact g_get (k := 2) hc (by decide) (show vwCl[6]? = some (RX6, TX6, 7) from rfl) rfl (by decide) lay_X6 (by rw [hM]; exact fl_RX6_9) rfl hd k
theorem gf_X6_15 {l : Launch} {g : Geo} {M : Me} {κ : Kx} {K : AV → Mm → Prop} {pc : Nat} {lv : Lv} {X : Mm} {r : List AV} {c : Nat} {c2 : Nat} (h2 : c + 2 = c2) (hM : M.1.cls = RX6) (hc : kd c = 6) (hd : decode M.2.1 pc = .ok (.getfield 15, 3)) (k : G l g M κ K (pc + 3) lv (vR c2 :: r) X) : G l g M κ K pc lv (vR c :: r) X := by
  subst h2
  exact g_get (k := 3) hc (by decide) (show vwCl[6]? = some (RX6, TX6, 7) from rfl) rfl (by decide) lay_X6 (by rw [hM]; exact fl_RX6_15) rfl hd k
theorem gf_X6_19 {l : Launch} {g : Geo} {M : Me} {κ : Kx} {K : AV → Mm → Prop} {pc : Nat} {lv : Lv} {X : Mm} {r : List AV} {c : Nat} {c2 : Nat} (h2 : c + 3 = c2) (hM : M.1.cls = RX6) (hc : kd c = 6) (hd : decode M.2.1 pc = .ok (.getfield 19, 3)) (k : G l g M κ K (pc + 3) lv (vR c2 :: r) X) : G l g M κ K pc lv (vR c :: r) X := by
  subst h2
  exact g_get (k := 4) hc (by decide) (show vwCl[6]? = some (RX6, TX6, 7) from rfl) rfl (by decide) lay_X6 (by rw [hM]; exact fl_RX6_19) rfl hd k
theorem gf_X6_22 {l : Launch} {g : Geo} {M : Me} {κ : Kx} {K : AV → Mm → Prop} {pc : Nat} {lv : Lv} {X : Mm} {r : List AV} {c : Nat} {c2 : Nat} (h2 : c + 4 = c2) (hM : M.1.cls = RX6) (hc : kd c = 6) (hd : decode M.2.1 pc = .ok (.getfield 22, 3)) (k : G l g M κ K (pc + 3) lv (vR c2 :: r) X) : G l g M κ K pc lv (vR c :: r) X := by
  subst h2
  exact g_get (k := 5) hc (by decide) (show vwCl[6]? = some (RX6, TX6, 7) from rfl) rfl (by decide) lay_X6 (by rw [hM]; exact fl_RX6_22) rfl hd k
theorem gf_X6_25 {l : Launch} {g : Geo} {M : Me} {κ : Kx} {K : AV → Mm → Prop} {pc : Nat} {lv : Lv} {X : Mm} {r : List AV} {c : Nat} {c2 : Nat} (h2 : c + 5 = c2) (hM : M.1.cls = RX6) (hc : kd c = 6) (hd : decode M.2.1 pc = .ok (.getfield 25, 3)) (k : G l g M κ K (pc + 3) lv (vR c2 :: r) X) : G l g M κ K pc lv (vR c :: r) X := by
  subst h2
  exact g_get (k := 6) hc (by decide) (show vwCl[6]? = some (RX6, TX6, 7) from rfl) rfl (by decide) lay_X6 (by rw [hM]; exact fl_RX6_25) rfl hd k
theorem gf_X6_28 {l : Launch} {g : Geo} {M : Me} {κ : Kx} {K : AV → Mm → Prop} {pc : Nat} {lv : Lv} {X : Mm} {r : List AV} {c : Nat} (hM : M.1.cls = RX6) (hc : kd c = 3) (hd : decode M.2.1 pc = .ok (.getfield 28, 3)) (k : G l g M κ K (pc + 3) lv (vI (X c 0) :: r) X) : G l g M κ K pc lv (vR c :: r) X := g_get (k := 0) hc (by decide) (show vwCl[3]? = some (RX3, TX3, 9) from rfl) rfl (by decide) lay_X3 (by rw [hM]; exact fl_RX6_28) rfl hd k
theorem gf_X6_34 {l : Launch} {g : Geo} {M : Me} {κ : Kx} {K : AV → Mm → Prop} {pc : Nat} {lv : Lv} {X : Mm} {r : List AV} {c : Nat} (hM : M.1.cls = RX6) (hc : kd c = 6) (hd : decode M.2.1 pc = .ok (.getfield 34, 3)) (k : G l g M κ K (pc + 3) lv (vI (X c 0) :: r) X) : G l g M κ K pc lv (vR c :: r) X := g_get (k := 0) hc (by decide) (show vwCl[6]? = some (RX6, TX6, 7) from rfl) rfl (by decide) lay_X6 (by rw [hM]; exact fl_RX6_34) rfl hd k
theorem gf_X6_35 {l : Launch} {g : Geo} {M : Me} {κ : Kx} {K : AV → Mm → Prop} {pc : Nat} {lv : Lv} {X : Mm} {r : List AV} {c : Nat} (hM : M.1.cls = RX6) (hc : kd c = 3) (hd : decode M.2.1 pc = .ok (.getfield 35, 3)) (k : G l g M κ K (pc + 3) lv (vI (X c 1) :: r) X) : G l g M κ K pc lv (vR c :: r) X := g_get (k := 1) hc (by decide) (show vwCl[3]? = some (RX3, TX3, 9) from rfl) rfl (by decide) lay_X3 (by rw [hM]; exact fl_RX6_35) rfl hd k
theorem gf_X6_38 {l : Launch} {g : Geo} {M : Me} {κ : Kx} {K : AV → Mm → Prop} {pc : Nat} {lv : Lv} {X : Mm} {r : List AV} {c : Nat} (hM : M.1.cls = RX6) (hc : kd c = 6) (hd : decode M.2.1 pc = .ok (.getfield 38, 3)) (k : G l g M κ K (pc + 3) lv (vI (X c 1) :: r) X) : G l g M κ K pc lv (vR c :: r) X := g_get (k := 1) hc (by decide) (show vwCl[6]? = some (RX6, TX6, 7) from rfl) rfl (by decide) lay_X6 (by rw [hM]; exact fl_RX6_38) rfl hd k
theorem gf_X6_39 {l : Launch} {g : Geo} {M : Me} {κ : Kx} {K : AV → Mm → Prop} {pc : Nat} {lv : Lv} {X : Mm} {r : List AV} {c : Nat} {c2 : Nat} (h2 : c + 1 = c2) (hM : M.1.cls = RX6) (hc : kd c = 3) (hd : decode M.2.1 pc = .ok (.getfield 39, 3)) (k : G l g M κ K (pc + 3) lv (vR c2 :: r) X) : G l g M κ K pc lv (vR c :: r) X := by
  subst h2
  exact g_get (k := 4) hc (by decide) (show vwCl[3]? = some (RX3, TX3, 9) from rfl) rfl (by decide) lay_X3 (by rw [hM]; exact fl_RX6_39) rfl hd k
theorem gf_X6_42 {l : Launch} {g : Geo} {M : Me} {κ : Kx} {K : AV → Mm → Prop} {pc : Nat} {lv : Lv} {X : Mm} {r : List AV} {c : Nat} {c2 : Nat} (h2 : c + 2 = c2) (hM : M.1.cls = RX6) (hc : kd c = 3) (hd : decode M.2.1 pc = .ok (.getfield 42, 3)) (k : G l g M κ K (pc + 3) lv (vR c2 :: r) X) : G l g M κ K pc lv (vR c :: r) X := by
  subst h2
  exact g_get (k := 5) hc (by decide) (show vwCl[3]? = some (RX3, TX3, 9) from rfl) rfl (by decide) lay_X3 (by rw [hM]; exact fl_RX6_42) rfl hd k
theorem gf_X6_53 {l : Launch} {g : Geo} {M : Me} {κ : Kx} {K : AV → Mm → Prop} {pc : Nat} {lv : Lv} {X : Mm} {r : List AV} {c : Nat} (hM : M.1.cls = RX6) (hc : kd c = 5) (hd : decode M.2.1 pc = .ok (.getfield 53, 3)) (k : G l g M κ K (pc + 3) lv (vJ (X c 1) :: r) X) : G l g M κ K pc lv (vR c :: r) X := g_get (k := 1) hc (by decide) (show vwCl[5]? = some (RX5, TX5, 3) from rfl) rfl (by decide) lay_X5 (by rw [hM]; exact fl_RX6_53) rfl hd k
theorem gf_X6_59 {l : Launch} {g : Geo} {M : Me} {κ : Kx} {K : AV → Mm → Prop} {pc : Nat} {lv : Lv} {X : Mm} {r : List AV} {c : Nat} (hM : M.1.cls = RX6) (hc : kd c = 5) (hd : decode M.2.1 pc = .ok (.getfield 59, 3)) (k : G l g M κ K (pc + 3) lv (vJ (X c 2) :: r) X) : G l g M κ K pc lv (vR c :: r) X := g_get (k := 2) hc (by decide) (show vwCl[5]? = some (RX5, TX5, 3) from rfl) rfl (by decide) lay_X5 (by rw [hM]; exact fl_RX6_59) rfl hd k
theorem gf_X7_7 {l : Launch} {g : Geo} {M : Me} {κ : Kx} {K : AV → Mm → Prop} {pc : Nat} {lv : Lv} {X : Mm} {r : List AV} {c : Nat} (hM : M.1.cls = RX7) (hc : kd c = 7) (hd : decode M.2.1 pc = .ok (.getfield 7, 3)) (k : G l g M κ K (pc + 3) lv (vI (X c 0) :: r) X) : G l g M κ K pc lv (vR c :: r) X := g_get (k := 0) hc (by decide) (show vwCl[7]? = some (RX7, TX7, 11) from rfl) rfl (by decide) lay_X7 (by rw [hM]; exact fl_RX7_7) rfl hd k
theorem gf_X7_16 {l : Launch} {g : Geo} {M : Me} {κ : Kx} {K : AV → Mm → Prop} {pc : Nat} {lv : Lv} {X : Mm} {r : List AV} {c : Nat} {c2 : Nat} (h2 : c + 1 = c2) (hM : M.1.cls = RX7) (hc : kd c = 7) (hd : decode M.2.1 pc = .ok (.getfield 16, 3)) (k : G l g M κ K (pc + 3) lv (vR c2 :: r) X) : G l g M κ K pc lv (vR c :: r) X := by
  subst h2
  exact g_get (k := 1) hc (by decide) (show vwCl[7]? = some (RX7, TX7, 11) from rfl) rfl (by decide) lay_X7 (by rw [hM]; exact fl_RX7_16) rfl hd k
theorem gf_X7_23 {l : Launch} {g : Geo} {M : Me} {κ : Kx} {K : AV → Mm → Prop} {pc : Nat} {lv : Lv} {X : Mm} {r : List AV} {c : Nat} {c2 : Nat} (h2 : c + 5 = c2) (hM : M.1.cls = RX7) (hc : kd c = 7) (hd : decode M.2.1 pc = .ok (.getfield 23, 3)) (k : G l g M κ K (pc + 3) lv (vR c2 :: r) X) : G l g M κ K pc lv (vR c :: r) X := by
  subst h2
  exact g_get (k := 2) hc (by decide) (show vwCl[7]? = some (RX7, TX7, 11) from rfl) rfl (by decide) lay_X7 (by rw [hM]; exact fl_RX7_23) rfl hd k
theorem gf_X7_27 {l : Launch} {g : Geo} {M : Me} {κ : Kx} {K : AV → Mm → Prop} {pc : Nat} {lv : Lv} {X : Mm} {r : List AV} {c : Nat} {c2 : Nat} (h2 : c + 11 = c2) (hM : M.1.cls = RX7) (hc : kd c = 7) (hd : decode M.2.1 pc = .ok (.getfield 27, 3)) (k : G l g M κ K (pc + 3) lv (vR c2 :: r) X) : G l g M κ K pc lv (vR c :: r) X := by
  subst h2
  exact g_get (k := 3) hc (by decide) (show vwCl[7]? = some (RX7, TX7, 11) from rfl) rfl (by decide) lay_X7 (by rw [hM]; exact fl_RX7_27) rfl hd k
theorem gf_X7_33 {l : Launch} {g : Geo} {M : Me} {κ : Kx} {K : AV → Mm → Prop} {pc : Nat} {lv : Lv} {X : Mm} {r : List AV} {c : Nat} {c2 : Nat} (h2 : c + 17 = c2) (hM : M.1.cls = RX7) (hc : kd c = 7) (hd : decode M.2.1 pc = .ok (.getfield 33, 3)) (k : G l g M κ K (pc + 3) lv (vR c2 :: r) X) : G l g M κ K pc lv (vR c :: r) X := by
  subst h2
  exact g_get (k := 4) hc (by decide) (show vwCl[7]? = some (RX7, TX7, 11) from rfl) rfl (by decide) lay_X7 (by rw [hM]; exact fl_RX7_33) rfl hd k
theorem gf_X7_37 {l : Launch} {g : Geo} {M : Me} {κ : Kx} {K : AV → Mm → Prop} {pc : Nat} {lv : Lv} {X : Mm} {r : List AV} {c : Nat} {c2 : Nat} (h2 : c + 23 = c2) (hM : M.1.cls = RX7) (hc : kd c = 7) (hd : decode M.2.1 pc = .ok (.getfield 37, 3)) (k : G l g M κ K (pc + 3) lv (vR c2 :: r) X) : G l g M κ K pc lv (vR c :: r) X := by
  subst h2
  exact g_get (k := 5) hc (by decide) (show vwCl[7]? = some (RX7, TX7, 11) from rfl) rfl (by decide) lay_X7 (by rw [hM]; exact fl_RX7_37) rfl hd k
theorem gf_X7_43 {l : Launch} {g : Geo} {M : Me} {κ : Kx} {K : AV → Mm → Prop} {pc : Nat} {lv : Lv} {X : Mm} {r : List AV} {c : Nat} {c2 : Nat} (h2 : c + 29 = c2) (hM : M.1.cls = RX7) (hc : kd c = 7) (hd : decode M.2.1 pc = .ok (.getfield 43, 3)) (k : G l g M κ K (pc + 3) lv (vR c2 :: r) X) : G l g M κ K pc lv (vR c :: r) X := by
  subst h2
  exact g_get (k := 6) hc (by decide) (show vwCl[7]? = some (RX7, TX7, 11) from rfl) rfl (by decide) lay_X7 (by rw [hM]; exact fl_RX7_43) rfl hd k
theorem gf_X7_47 {l : Launch} {g : Geo} {M : Me} {κ : Kx} {K : AV → Mm → Prop} {pc : Nat} {lv : Lv} {X : Mm} {r : List AV} {c : Nat} {c2 : Nat} (h2 : c + 30 = c2) (hM : M.1.cls = RX7) (hc : kd c = 7) (hd : decode M.2.1 pc = .ok (.getfield 47, 3)) (k : G l g M κ K (pc + 3) lv (vR c2 :: r) X) : G l g M κ K pc lv (vR c :: r) X := by
  subst h2
  exact g_get (k := 7) hc (by decide) (show vwCl[7]? = some (RX7, TX7, 11) from rfl) rfl (by decide) lay_X7 (by rw [hM]; exact fl_RX7_47) rfl hd k
theorem gf_X7_53 {l : Launch} {g : Geo} {M : Me} {κ : Kx} {K : AV → Mm → Prop} {pc : Nat} {lv : Lv} {X : Mm} {r : List AV} {c : Nat} {c2 : Nat} (h2 : c + 31 = c2) (hM : M.1.cls = RX7) (hc : kd c = 7) (hd : decode M.2.1 pc = .ok (.getfield 53, 3)) (k : G l g M κ K (pc + 3) lv (vR c2 :: r) X) : G l g M κ K pc lv (vR c :: r) X := by
  subst h2
  exact g_get (k := 8) hc (by decide) (show vwCl[7]? = some (RX7, TX7, 11) from rfl) rfl (by decide) lay_X7 (by rw [hM]; exact fl_RX7_53) rfl hd k
theorem gf_X7_60 {l : Launch} {g : Geo} {M : Me} {κ : Kx} {K : AV → Mm → Prop} {pc : Nat} {lv : Lv} {X : Mm} {r : List AV} {c : Nat} {c2 : Nat} (h2 : c + 37 = c2) (hM : M.1.cls = RX7) (hc : kd c = 7) (hd : decode M.2.1 pc = .ok (.getfield 60, 3)) (k : G l g M κ K (pc + 3) lv (vR c2 :: r) X) : G l g M κ K pc lv (vR c :: r) X := by
  subst h2
  exact g_get (k := 9) hc (by decide) (show vwCl[7]? = some (RX7, TX7, 11) from rfl) rfl (by decide) lay_X7 (by rw [hM]; exact fl_RX7_60) rfl hd k
theorem gf_X7_67 {l : Launch} {g : Geo} {M : Me} {κ : Kx} {K : AV → Mm → Prop} {pc : Nat} {lv : Lv} {X : Mm} {r : List AV} {c : Nat} {c2 : Nat} (h2 : c + 42 = c2) (hM : M.1.cls = RX7) (hc : kd c = 7) (hd : decode M.2.1 pc = .ok (.getfield 67, 3)) (k : G l g M κ K (pc + 3) lv (vR c2 :: r) X) : G l g M κ K pc lv (vR c :: r) X := by
  subst h2
  exact g_get (k := 10) hc (by decide) (show vwCl[7]? = some (RX7, TX7, 11) from rfl) rfl (by decide) lay_X7 (by rw [hM]; exact fl_RX7_67) rfl hd k
theorem gf_X7_74 {l : Launch} {g : Geo} {M : Me} {κ : Kx} {K : AV → Mm → Prop} {pc : Nat} {lv : Lv} {X : Mm} {r : List AV} {c : Nat} (hM : M.1.cls = RX7) (hc : kd c = 3) (hd : decode M.2.1 pc = .ok (.getfield 74, 3)) (k : G l g M κ K (pc + 3) lv (vI (X c 0) :: r) X) : G l g M κ K pc lv (vR c :: r) X := g_get (k := 0) hc (by decide) (show vwCl[3]? = some (RX3, TX3, 9) from rfl) rfl (by decide) lay_X3 (by rw [hM]; exact fl_RX7_74) rfl hd k
theorem gf_X7_77 {l : Launch} {g : Geo} {M : Me} {κ : Kx} {K : AV → Mm → Prop} {pc : Nat} {lv : Lv} {X : Mm} {r : List AV} {c : Nat} (hM : M.1.cls = RX7) (hc : kd c = 5) (hd : decode M.2.1 pc = .ok (.getfield 77, 3)) (k : G l g M κ K (pc + 3) lv (vI (X c 0) :: r) X) : G l g M κ K pc lv (vR c :: r) X := g_get (k := 0) hc (by decide) (show vwCl[5]? = some (RX5, TX5, 3) from rfl) rfl (by decide) lay_X5 (by rw [hM]; exact fl_RX7_77) rfl hd k
theorem gf_X7_89 {l : Launch} {g : Geo} {M : Me} {κ : Kx} {K : AV → Mm → Prop} {pc : Nat} {lv : Lv} {X : Mm} {r : List AV} {c : Nat} {c2 : Nat} (h2 : c + 1 = c2) (hM : M.1.cls = RX7) (hc : kd c = 4) (hd : decode M.2.1 pc = .ok (.getfield 89, 3)) (k : G l g M κ K (pc + 3) lv (vR c2 :: r) X) : G l g M κ K pc lv (vR c :: r) X := by
  subst h2
  exact g_get (k := 1) hc (by decide) (show vwCl[4]? = some (RX4, TX4, 4) from rfl) rfl (by decide) lay_X4 (by rw [hM]; exact fl_RX7_89) rfl hd k
theorem gf_X7_93 {l : Launch} {g : Geo} {M : Me} {κ : Kx} {K : AV → Mm → Prop} {pc : Nat} {lv : Lv} {X : Mm} {r : List AV} {c : Nat} {c2 : Nat} (h2 : c + 2 = c2) (hM : M.1.cls = RX7) (hc : kd c = 4) (hd : decode M.2.1 pc = .ok (.getfield 93, 3)) (k : G l g M κ K (pc + 3) lv (vR c2 :: r) X) : G l g M κ K pc lv (vR c :: r) X := by
  subst h2
  exact g_get (k := 2) hc (by decide) (show vwCl[4]? = some (RX4, TX4, 4) from rfl) rfl (by decide) lay_X4 (by rw [hM]; exact fl_RX7_93) rfl hd k
theorem gf_X7_100 {l : Launch} {g : Geo} {M : Me} {κ : Kx} {K : AV → Mm → Prop} {pc : Nat} {lv : Lv} {X : Mm} {r : List AV} {c : Nat} (hM : M.1.cls = RX7) (hc : kd c = 4) (hd : decode M.2.1 pc = .ok (.getfield 100, 3)) (k : G l g M κ K (pc + 3) lv (vI (X c 0) :: r) X) : G l g M κ K pc lv (vR c :: r) X := g_get (k := 0) hc (by decide) (show vwCl[4]? = some (RX4, TX4, 4) from rfl) rfl (by decide) lay_X4 (by rw [hM]; exact fl_RX7_100) rfl hd k
theorem gf_X7_112 {l : Launch} {g : Geo} {M : Me} {κ : Kx} {K : AV → Mm → Prop} {pc : Nat} {lv : Lv} {X : Mm} {r : List AV} {c : Nat} (hM : M.1.cls = RX7) (hc : kd c = 3) (hd : decode M.2.1 pc = .ok (.getfield 112, 3)) (k : G l g M κ K (pc + 3) lv (vI (X c 2) :: r) X) : G l g M κ K pc lv (vR c :: r) X := g_get (k := 2) hc (by decide) (show vwCl[3]? = some (RX3, TX3, 9) from rfl) rfl (by decide) lay_X3 (by rw [hM]; exact fl_RX7_112) rfl hd k
theorem gf_X7_119 {l : Launch} {g : Geo} {M : Me} {κ : Kx} {K : AV → Mm → Prop} {pc : Nat} {lv : Lv} {X : Mm} {r : List AV} {c : Nat} (hM : M.1.cls = RX7) (hc : kd c = 3) (hd : decode M.2.1 pc = .ok (.getfield 119, 3)) (k : G l g M κ K (pc + 3) lv (vI (X c 3) :: r) X) : G l g M κ K pc lv (vR c :: r) X := g_get (k := 3) hc (by decide) (show vwCl[3]? = some (RX3, TX3, 9) from rfl) rfl (by decide) lay_X3 (by rw [hM]; exact fl_RX7_119) rfl hd k
theorem gf_X7_122 {l : Launch} {g : Geo} {M : Me} {κ : Kx} {K : AV → Mm → Prop} {pc : Nat} {lv : Lv} {X : Mm} {r : List AV} {c : Nat} {c2 : Nat} (h2 : c + 2 = c2) (hM : M.1.cls = RX7) (hc : kd c = 6) (hd : decode M.2.1 pc = .ok (.getfield 122, 3)) (k : G l g M κ K (pc + 3) lv (vR c2 :: r) X) : G l g M κ K pc lv (vR c :: r) X := by
  subst h2
  exact g_get (k := 3) hc (by decide) (show vwCl[6]? = some (RX6, TX6, 7) from rfl) rfl (by decide) lay_X6 (by rw [hM]; exact fl_RX7_122) rfl hd k
theorem gf_X7_126 {l : Launch} {g : Geo} {M : Me} {κ : Kx} {K : AV → Mm → Prop} {pc : Nat} {lv : Lv} {X : Mm} {r : List AV} {c : Nat} {c2 : Nat} (h2 : c + 3 = c2) (hM : M.1.cls = RX7) (hc : kd c = 6) (hd : decode M.2.1 pc = .ok (.getfield 126, 3)) (k : G l g M κ K (pc + 3) lv (vR c2 :: r) X) : G l g M κ K pc lv (vR c :: r) X := by
  subst h2
  exact g_get (k := 4) hc (by decide) (show vwCl[6]? = some (RX6, TX6, 7) from rfl) rfl (by decide) lay_X6 (by rw [hM]; exact fl_RX7_126) rfl hd k
theorem gf_X7_129 {l : Launch} {g : Geo} {M : Me} {κ : Kx} {K : AV → Mm → Prop} {pc : Nat} {lv : Lv} {X : Mm} {r : List AV} {c : Nat} {c2 : Nat} (h2 : c + 1 = c2) (hM : M.1.cls = RX7) (hc : kd c = 3) (hd : decode M.2.1 pc = .ok (.getfield 129, 3)) (k : G l g M κ K (pc + 3) lv (vR c2 :: r) X) : G l g M κ K pc lv (vR c :: r) X := by
  subst h2
  exact g_get (k := 4) hc (by decide) (show vwCl[3]? = some (RX3, TX3, 9) from rfl) rfl (by decide) lay_X3 (by rw [hM]; exact fl_RX7_129) rfl hd k
theorem gf_X7_130 {l : Launch} {g : Geo} {M : Me} {κ : Kx} {K : AV → Mm → Prop} {pc : Nat} {lv : Lv} {X : Mm} {r : List AV} {c : Nat} {c2 : Nat} (h2 : c + 2 = c2) (hM : M.1.cls = RX7) (hc : kd c = 3) (hd : decode M.2.1 pc = .ok (.getfield 130, 3)) (k : G l g M κ K (pc + 3) lv (vR c2 :: r) X) : G l g M κ K pc lv (vR c :: r) X := by
  subst h2
  exact g_get (k := 5) hc (by decide) (show vwCl[3]? = some (RX3, TX3, 9) from rfl) rfl (by decide) lay_X3 (by rw [hM]; exact fl_RX7_130) rfl hd k
theorem gf_X7_131 {l : Launch} {g : Geo} {M : Me} {κ : Kx} {K : AV → Mm → Prop} {pc : Nat} {lv : Lv} {X : Mm} {r : List AV} {c : Nat} {c2 : Nat} (h2 : c + 3 = c2) (hM : M.1.cls = RX7) (hc : kd c = 3) (hd : decode M.2.1 pc = .ok (.getfield 131, 3)) (k : G l g M κ K (pc + 3) lv (vR c2 :: r) X) : G l g M κ K pc lv (vR c :: r) X := by
  subst h2
  exact g_get (k := 6) hc (by decide) (show vwCl[3]? = some (RX3, TX3, 9) from rfl) rfl (by decide) lay_X3 (by rw [hM]; exact fl_RX7_131) rfl hd k
theorem gf_X7_134 {l : Launch} {g : Geo} {M : Me} {κ : Kx} {K : AV → Mm → Prop} {pc : Nat} {lv : Lv} {X : Mm} {r : List AV} {c : Nat} {c2 : Nat} (h2 : c + 4 = c2) (hM : M.1.cls = RX7) (hc : kd c = 3) (hd : decode M.2.1 pc = .ok (.getfield 134, 3)) (k : G l g M κ K (pc + 3) lv (vR c2 :: r) X) : G l g M κ K pc lv (vR c :: r) X := by
  subst h2
  exact g_get (k := 7) hc (by decide) (show vwCl[3]? = some (RX3, TX3, 9) from rfl) rfl (by decide) lay_X3 (by rw [hM]; exact fl_RX7_134) rfl hd k
theorem gf_X7_150 {l : Launch} {g : Geo} {M : Me} {κ : Kx} {K : AV → Mm → Prop} {pc : Nat} {lv : Lv} {X : Mm} {r : List AV} {c : Nat} (hM : M.1.cls = RX7) (hc : kd c = 5) (hd : decode M.2.1 pc = .ok (.getfield 150, 3)) (k : G l g M κ K (pc + 3) lv (vJ (X c 1) :: r) X) : G l g M κ K pc lv (vR c :: r) X := g_get (k := 1) hc (by decide) (show vwCl[5]? = some (RX5, TX5, 3) from rfl) rfl (by decide) lay_X5 (by rw [hM]; exact fl_RX7_150) rfl hd k
theorem gf_X7_154 {l : Launch} {g : Geo} {M : Me} {κ : Kx} {K : AV → Mm → Prop} {pc : Nat} {lv : Lv} {X : Mm} {r : List AV} {c : Nat} (hM : M.1.cls = RX7) (hc : kd c = 5) (hd : decode M.2.1 pc = .ok (.getfield 154, 3)) (k : G l g M κ K (pc + 3) lv (vJ (X c 2) :: r) X) : G l g M κ K pc lv (vR c :: r) X := g_get (k := 2) hc (by decide) (show vwCl[5]? = some (RX5, TX5, 3) from rfl) rfl (by decide) lay_X5 (by rw [hM]; exact fl_RX7_154) rfl hd k
theorem gf_X7_175 {l : Launch} {g : Geo} {M : Me} {κ : Kx} {K : AV → Mm → Prop} {pc : Nat} {lv : Lv} {X : Mm} {r : List AV} {c : Nat} {c2 : Nat} (h2 : c + 5 = c2) (hM : M.1.cls = RX7) (hc : kd c = 3) (hd : decode M.2.1 pc = .ok (.getfield 175, 3)) (k : G l g M κ K (pc + 3) lv (vR c2 :: r) X) : G l g M κ K pc lv (vR c :: r) X := by
  subst h2
  exact g_get (k := 8) hc (by decide) (show vwCl[3]? = some (RX3, TX3, 9) from rfl) rfl (by decide) lay_X3 (by rw [hM]; exact fl_RX7_175) rfl hd k
theorem gf_X7_195 {l : Launch} {g : Geo} {M : Me} {κ : Kx} {K : AV → Mm → Prop} {pc : Nat} {lv : Lv} {X : Mm} {r : List AV} {c : Nat} (hM : M.1.cls = RX7) (hc : kd c = 1) (hd : decode M.2.1 pc = .ok (.getfield 195, 3)) (k : G l g M κ K (pc + 3) lv (vI (X c 0) :: r) X) : G l g M κ K pc lv (vR c :: r) X := g_get (k := 0) hc (by decide) (show vwCl[1]? = some (RX1, TX1, 6) from rfl) rfl (by decide) lay_X1 (by rw [hM]; exact fl_RX7_195) rfl hd k
theorem gf_X7_196 {l : Launch} {g : Geo} {M : Me} {κ : Kx} {K : AV → Mm → Prop} {pc : Nat} {lv : Lv} {X : Mm} {r : List AV} {c : Nat} {c2 : Nat} (h2 : c + 1 = c2) (hM : M.1.cls = RX7) (hc : kd c = 1) (hd : decode M.2.1 pc = .ok (.getfield 196, 3)) (k : G l g M κ K (pc + 3) lv (vR c2 :: r) X) : G l g M κ K pc lv (vR c :: r) X := by
  subst h2
  exact g_get (k := 1) hc (by decide) (show vwCl[1]? = some (RX1, TX1, 6) from rfl) rfl (by decide) lay_X1 (by rw [hM]; exact fl_RX7_196) rfl hd k
theorem gf_X7_199 {l : Launch} {g : Geo} {M : Me} {κ : Kx} {K : AV → Mm → Prop} {pc : Nat} {lv : Lv} {X : Mm} {r : List AV} {c : Nat} {c2 : Nat} (h2 : c + 2 = c2) (hM : M.1.cls = RX7) (hc : kd c = 1) (hd : decode M.2.1 pc = .ok (.getfield 199, 3)) (k : G l g M κ K (pc + 3) lv (vR c2 :: r) X) : G l g M κ K pc lv (vR c :: r) X := by
  subst h2
  exact g_get (k := 2) hc (by decide) (show vwCl[1]? = some (RX1, TX1, 6) from rfl) rfl (by decide) lay_X1 (by rw [hM]; exact fl_RX7_199) rfl hd k
theorem gf_X7_202 {l : Launch} {g : Geo} {M : Me} {κ : Kx} {K : AV → Mm → Prop} {pc : Nat} {lv : Lv} {X : Mm} {r : List AV} {c : Nat} {c2 : Nat} (h2 : c + 3 = c2) (hM : M.1.cls = RX7) (hc : kd c = 1) (hd : decode M.2.1 pc = .ok (.getfield 202, 3)) (k : G l g M κ K (pc + 3) lv (vR c2 :: r) X) : G l g M κ K pc lv (vR c :: r) X := by
  subst h2
  exact g_get (k := 3) hc (by decide) (show vwCl[1]? = some (RX1, TX1, 6) from rfl) rfl (by decide) lay_X1 (by rw [hM]; exact fl_RX7_202) rfl hd k
theorem gf_X8_7 {l : Launch} {g : Geo} {M : Me} {κ : Kx} {K : AV → Mm → Prop} {pc : Nat} {lv : Lv} {X : Mm} {r : List AV} {c : Nat} {c2 : Nat} (h2 : c + 1 = c2) (hM : M.1.cls = RX8) (hc : kd c = 8) (hd : decode M.2.1 pc = .ok (.getfield 7, 3)) (k : G l g M κ K (pc + 3) lv (vR c2 :: r) X) : G l g M κ K pc lv (vR c :: r) X := by
  subst h2
  exact g_get (k := 1) hc (by decide) (show vwCl[8]? = some (RX8, TX8, 39) from rfl) rfl (by decide) lay_X8 (by rw [hM]; exact fl_RX8_7) rfl hd k
theorem gf_X8_13 {l : Launch} {g : Geo} {M : Me} {κ : Kx} {K : AV → Mm → Prop} {pc : Nat} {lv : Lv} {X : Mm} {r : List AV} {c : Nat} {c2 : Nat} (h2 : c + 2 = c2) (hM : M.1.cls = RX8) (hc : kd c = 8) (hd : decode M.2.1 pc = .ok (.getfield 13, 3)) (k : G l g M κ K (pc + 3) lv (vR c2 :: r) X) : G l g M κ K pc lv (vR c :: r) X := by
  subst h2
  exact g_get (k := 2) hc (by decide) (show vwCl[8]? = some (RX8, TX8, 39) from rfl) rfl (by decide) lay_X8 (by rw [hM]; exact fl_RX8_13) rfl hd k
theorem gf_X8_16 {l : Launch} {g : Geo} {M : Me} {κ : Kx} {K : AV → Mm → Prop} {pc : Nat} {lv : Lv} {X : Mm} {r : List AV} {c : Nat} {c2 : Nat} (h2 : c + 3 = c2) (hM : M.1.cls = RX8) (hc : kd c = 8) (hd : decode M.2.1 pc = .ok (.getfield 16, 3)) (k : G l g M κ K (pc + 3) lv (vR c2 :: r) X) : G l g M κ K pc lv (vR c :: r) X := by
  subst h2
  exact g_get (k := 4) hc (by decide) (show vwCl[8]? = some (RX8, TX8, 39) from rfl) rfl (by decide) lay_X8 (by rw [hM]; exact fl_RX8_16) rfl hd k
theorem gf_X8_19 {l : Launch} {g : Geo} {M : Me} {κ : Kx} {K : AV → Mm → Prop} {pc : Nat} {lv : Lv} {X : Mm} {r : List AV} {c : Nat} {c2 : Nat} (h2 : c + 4 = c2) (hM : M.1.cls = RX8) (hc : kd c = 8) (hd : decode M.2.1 pc = .ok (.getfield 19, 3)) (k : G l g M κ K (pc + 3) lv (vR c2 :: r) X) : G l g M κ K pc lv (vR c :: r) X := by
  subst h2
  exact g_get (k := 6) hc (by decide) (show vwCl[8]? = some (RX8, TX8, 39) from rfl) rfl (by decide) lay_X8 (by rw [hM]; exact fl_RX8_19) rfl hd k
theorem gf_X8_23 {l : Launch} {g : Geo} {M : Me} {κ : Kx} {K : AV → Mm → Prop} {pc : Nat} {lv : Lv} {X : Mm} {r : List AV} {c : Nat} {c2 : Nat} (h2 : c + 5 = c2) (hM : M.1.cls = RX8) (hc : kd c = 8) (hd : decode M.2.1 pc = .ok (.getfield 23, 3)) (k : G l g M κ K (pc + 3) lv (vR c2 :: r) X) : G l g M κ K pc lv (vR c :: r) X := by
  subst h2
  exact g_get (k := 7) hc (by decide) (show vwCl[8]? = some (RX8, TX8, 39) from rfl) rfl (by decide) lay_X8 (by rw [hM]; exact fl_RX8_23) rfl hd k
theorem gf_X8_26 {l : Launch} {g : Geo} {M : Me} {κ : Kx} {K : AV → Mm → Prop} {pc : Nat} {lv : Lv} {X : Mm} {r : List AV} {c : Nat} {c2 : Nat} (h2 : c + 6 = c2) (hM : M.1.cls = RX8) (hc : kd c = 8) (hd : decode M.2.1 pc = .ok (.getfield 26, 3)) (k : G l g M κ K (pc + 3) lv (vR c2 :: r) X) : G l g M κ K pc lv (vR c :: r) X := by
  subst h2
  exact g_get (k := 8) hc (by decide) (show vwCl[8]? = some (RX8, TX8, 39) from rfl) rfl (by decide) lay_X8 (by rw [hM]; exact fl_RX8_26) rfl hd k
theorem gf_X8_29 {l : Launch} {g : Geo} {M : Me} {κ : Kx} {K : AV → Mm → Prop} {pc : Nat} {lv : Lv} {X : Mm} {r : List AV} {c : Nat} {c2 : Nat} (h2 : c + 7 = c2) (hM : M.1.cls = RX8) (hc : kd c = 8) (hd : decode M.2.1 pc = .ok (.getfield 29, 3)) (k : G l g M κ K (pc + 3) lv (vR c2 :: r) X) : G l g M κ K pc lv (vR c :: r) X := by
  subst h2
  exact g_get (k := 9) hc (by decide) (show vwCl[8]? = some (RX8, TX8, 39) from rfl) rfl (by decide) lay_X8 (by rw [hM]; exact fl_RX8_29) rfl hd k
theorem gf_X8_32 {l : Launch} {g : Geo} {M : Me} {κ : Kx} {K : AV → Mm → Prop} {pc : Nat} {lv : Lv} {X : Mm} {r : List AV} {c : Nat} {c2 : Nat} (h2 : c + 8 = c2) (hM : M.1.cls = RX8) (hc : kd c = 8) (hd : decode M.2.1 pc = .ok (.getfield 32, 3)) (k : G l g M κ K (pc + 3) lv (vR c2 :: r) X) : G l g M κ K pc lv (vR c :: r) X := by
  subst h2
  exact g_get (k := 10) hc (by decide) (show vwCl[8]? = some (RX8, TX8, 39) from rfl) rfl (by decide) lay_X8 (by rw [hM]; exact fl_RX8_32) rfl hd k
theorem gf_X8_35 {l : Launch} {g : Geo} {M : Me} {κ : Kx} {K : AV → Mm → Prop} {pc : Nat} {lv : Lv} {X : Mm} {r : List AV} {c : Nat} {c2 : Nat} (h2 : c + 9 = c2) (hM : M.1.cls = RX8) (hc : kd c = 8) (hd : decode M.2.1 pc = .ok (.getfield 35, 3)) (k : G l g M κ K (pc + 3) lv (vR c2 :: r) X) : G l g M κ K pc lv (vR c :: r) X := by
  subst h2
  exact g_get (k := 20) hc (by decide) (show vwCl[8]? = some (RX8, TX8, 39) from rfl) rfl (by decide) lay_X8 (by rw [hM]; exact fl_RX8_35) rfl hd k
theorem gf_X8_38 {l : Launch} {g : Geo} {M : Me} {κ : Kx} {K : AV → Mm → Prop} {pc : Nat} {lv : Lv} {X : Mm} {r : List AV} {c : Nat} {c2 : Nat} (h2 : c + 10 = c2) (hM : M.1.cls = RX8) (hc : kd c = 8) (hd : decode M.2.1 pc = .ok (.getfield 38, 3)) (k : G l g M κ K (pc + 3) lv (vR c2 :: r) X) : G l g M κ K pc lv (vR c :: r) X := by
  subst h2
  exact g_get (k := 21) hc (by decide) (show vwCl[8]? = some (RX8, TX8, 39) from rfl) rfl (by decide) lay_X8 (by rw [hM]; exact fl_RX8_38) rfl hd k
theorem gf_X8_41 {l : Launch} {g : Geo} {M : Me} {κ : Kx} {K : AV → Mm → Prop} {pc : Nat} {lv : Lv} {X : Mm} {r : List AV} {c : Nat} {c2 : Nat} (h2 : c + 11 = c2) (hM : M.1.cls = RX8) (hc : kd c = 8) (hd : decode M.2.1 pc = .ok (.getfield 41, 3)) (k : G l g M κ K (pc + 3) lv (vR c2 :: r) X) : G l g M κ K pc lv (vR c :: r) X := by
  subst h2
  exact g_get (k := 22) hc (by decide) (show vwCl[8]? = some (RX8, TX8, 39) from rfl) rfl (by decide) lay_X8 (by rw [hM]; exact fl_RX8_41) rfl hd k
theorem gf_X8_44 {l : Launch} {g : Geo} {M : Me} {κ : Kx} {K : AV → Mm → Prop} {pc : Nat} {lv : Lv} {X : Mm} {r : List AV} {c : Nat} {c2 : Nat} (h2 : c + 12 = c2) (hM : M.1.cls = RX8) (hc : kd c = 8) (hd : decode M.2.1 pc = .ok (.getfield 44, 3)) (k : G l g M κ K (pc + 3) lv (vR c2 :: r) X) : G l g M κ K pc lv (vR c :: r) X := by
  subst h2
  exact g_get (k := 23) hc (by decide) (show vwCl[8]? = some (RX8, TX8, 39) from rfl) rfl (by decide) lay_X8 (by rw [hM]; exact fl_RX8_44) rfl hd k
theorem gf_X8_47 {l : Launch} {g : Geo} {M : Me} {κ : Kx} {K : AV → Mm → Prop} {pc : Nat} {lv : Lv} {X : Mm} {r : List AV} {c : Nat} {c2 : Nat} (h2 : c + 13 = c2) (hM : M.1.cls = RX8) (hc : kd c = 8) (hd : decode M.2.1 pc = .ok (.getfield 47, 3)) (k : G l g M κ K (pc + 3) lv (vR c2 :: r) X) : G l g M κ K pc lv (vR c :: r) X := by
  subst h2
  exact g_get (k := 24) hc (by decide) (show vwCl[8]? = some (RX8, TX8, 39) from rfl) rfl (by decide) lay_X8 (by rw [hM]; exact fl_RX8_47) rfl hd k
theorem gf_X8_50 {l : Launch} {g : Geo} {M : Me} {κ : Kx} {K : AV → Mm → Prop} {pc : Nat} {lv : Lv} {X : Mm} {r : List AV} {c : Nat} {c2 : Nat} (h2 : c + 14 = c2) (hM : M.1.cls = RX8) (hc : kd c = 8) (hd : decode M.2.1 pc = .ok (.getfield 50, 3)) (k : G l g M κ K (pc + 3) lv (vR c2 :: r) X) : G l g M κ K pc lv (vR c :: r) X := by
  subst h2
  exact g_get (k := 26) hc (by decide) (show vwCl[8]? = some (RX8, TX8, 39) from rfl) rfl (by decide) lay_X8 (by rw [hM]; exact fl_RX8_50) rfl hd k
theorem gf_X8_53 {l : Launch} {g : Geo} {M : Me} {κ : Kx} {K : AV → Mm → Prop} {pc : Nat} {lv : Lv} {X : Mm} {r : List AV} {c : Nat} {c2 : Nat} (h2 : c + 15 = c2) (hM : M.1.cls = RX8) (hc : kd c = 8) (hd : decode M.2.1 pc = .ok (.getfield 53, 3)) (k : G l g M κ K (pc + 3) lv (vR c2 :: r) X) : G l g M κ K pc lv (vR c :: r) X := by
  subst h2
  exact g_get (k := 27) hc (by decide) (show vwCl[8]? = some (RX8, TX8, 39) from rfl) rfl (by decide) lay_X8 (by rw [hM]; exact fl_RX8_53) rfl hd k
theorem gf_X8_56 {l : Launch} {g : Geo} {M : Me} {κ : Kx} {K : AV → Mm → Prop} {pc : Nat} {lv : Lv} {X : Mm} {r : List AV} {c : Nat} {c2 : Nat} (h2 : c + 16 = c2) (hM : M.1.cls = RX8) (hc : kd c = 8) (hd : decode M.2.1 pc = .ok (.getfield 56, 3)) (k : G l g M κ K (pc + 3) lv (vR c2 :: r) X) : G l g M κ K pc lv (vR c :: r) X := by
  subst h2
  exact g_get (k := 28) hc (by decide) (show vwCl[8]? = some (RX8, TX8, 39) from rfl) rfl (by decide) lay_X8 (by rw [hM]; exact fl_RX8_56) rfl hd k
theorem gf_X8_59 {l : Launch} {g : Geo} {M : Me} {κ : Kx} {K : AV → Mm → Prop} {pc : Nat} {lv : Lv} {X : Mm} {r : List AV} {c : Nat} {c2 : Nat} (h2 : c + 17 = c2) (hM : M.1.cls = RX8) (hc : kd c = 8) (hd : decode M.2.1 pc = .ok (.getfield 59, 3)) (k : G l g M κ K (pc + 3) lv (vR c2 :: r) X) : G l g M κ K pc lv (vR c :: r) X := by
  subst h2
  exact g_get (k := 29) hc (by decide) (show vwCl[8]? = some (RX8, TX8, 39) from rfl) rfl (by decide) lay_X8 (by rw [hM]; exact fl_RX8_59) rfl hd k
theorem gf_X8_62 {l : Launch} {g : Geo} {M : Me} {κ : Kx} {K : AV → Mm → Prop} {pc : Nat} {lv : Lv} {X : Mm} {r : List AV} {c : Nat} {c2 : Nat} (h2 : c + 18 = c2) (hM : M.1.cls = RX8) (hc : kd c = 8) (hd : decode M.2.1 pc = .ok (.getfield 62, 3)) (k : G l g M κ K (pc + 3) lv (vR c2 :: r) X) : G l g M κ K pc lv (vR c :: r) X := by
  subst h2
  exact g_get (k := 30) hc (by decide) (show vwCl[8]? = some (RX8, TX8, 39) from rfl) rfl (by decide) lay_X8 (by rw [hM]; exact fl_RX8_62) rfl hd k
theorem gf_X8_65 {l : Launch} {g : Geo} {M : Me} {κ : Kx} {K : AV → Mm → Prop} {pc : Nat} {lv : Lv} {X : Mm} {r : List AV} {c : Nat} {c2 : Nat} (h2 : c + 19 = c2) (hM : M.1.cls = RX8) (hc : kd c = 8) (hd : decode M.2.1 pc = .ok (.getfield 65, 3)) (k : G l g M κ K (pc + 3) lv (vR c2 :: r) X) : G l g M κ K pc lv (vR c :: r) X := by
  subst h2
  exact g_get (k := 31) hc (by decide) (show vwCl[8]? = some (RX8, TX8, 39) from rfl) rfl (by decide) lay_X8 (by rw [hM]; exact fl_RX8_65) rfl hd k
theorem gf_X8_69 {l : Launch} {g : Geo} {M : Me} {κ : Kx} {K : AV → Mm → Prop} {pc : Nat} {lv : Lv} {X : Mm} {r : List AV} {c : Nat} {c2 : Nat} (h2 : c + 20 = c2) (hM : M.1.cls = RX8) (hc : kd c = 8) (hd : decode M.2.1 pc = .ok (.getfield 69, 3)) (k : G l g M κ K (pc + 3) lv (vR c2 :: r) X) : G l g M κ K pc lv (vR c :: r) X := by
  subst h2
  exact g_get (k := 32) hc (by decide) (show vwCl[8]? = some (RX8, TX8, 39) from rfl) rfl (by decide) lay_X8 (by rw [hM]; exact fl_RX8_69) rfl hd k
theorem gf_X8_72 {l : Launch} {g : Geo} {M : Me} {κ : Kx} {K : AV → Mm → Prop} {pc : Nat} {lv : Lv} {X : Mm} {r : List AV} {c : Nat} {c2 : Nat} (h2 : c + 21 = c2) (hM : M.1.cls = RX8) (hc : kd c = 8) (hd : decode M.2.1 pc = .ok (.getfield 72, 3)) (k : G l g M κ K (pc + 3) lv (vR c2 :: r) X) : G l g M κ K pc lv (vR c :: r) X := by
  subst h2
  exact g_get (k := 33) hc (by decide) (show vwCl[8]? = some (RX8, TX8, 39) from rfl) rfl (by decide) lay_X8 (by rw [hM]; exact fl_RX8_72) rfl hd k
theorem gf_X8_75 {l : Launch} {g : Geo} {M : Me} {κ : Kx} {K : AV → Mm → Prop} {pc : Nat} {lv : Lv} {X : Mm} {r : List AV} {c : Nat} {c2 : Nat} (h2 : c + 22 = c2) (hM : M.1.cls = RX8) (hc : kd c = 8) (hd : decode M.2.1 pc = .ok (.getfield 75, 3)) (k : G l g M κ K (pc + 3) lv (vR c2 :: r) X) : G l g M κ K pc lv (vR c :: r) X := by
  subst h2
  exact g_get (k := 34) hc (by decide) (show vwCl[8]? = some (RX8, TX8, 39) from rfl) rfl (by decide) lay_X8 (by rw [hM]; exact fl_RX8_75) rfl hd k
theorem gf_X8_78 {l : Launch} {g : Geo} {M : Me} {κ : Kx} {K : AV → Mm → Prop} {pc : Nat} {lv : Lv} {X : Mm} {r : List AV} {c : Nat} {c2 : Nat} (h2 : c + 23 = c2) (hM : M.1.cls = RX8) (hc : kd c = 8) (hd : decode M.2.1 pc = .ok (.getfield 78, 3)) (k : G l g M κ K (pc + 3) lv (vR c2 :: r) X) : G l g M κ K pc lv (vR c :: r) X := by
  subst h2
  exact g_get (k := 36) hc (by decide) (show vwCl[8]? = some (RX8, TX8, 39) from rfl) rfl (by decide) lay_X8 (by rw [hM]; exact fl_RX8_78) rfl hd k
theorem gf_X8_81 {l : Launch} {g : Geo} {M : Me} {κ : Kx} {K : AV → Mm → Prop} {pc : Nat} {lv : Lv} {X : Mm} {r : List AV} {c : Nat} {c2 : Nat} (h2 : c + 24 = c2) (hM : M.1.cls = RX8) (hc : kd c = 8) (hd : decode M.2.1 pc = .ok (.getfield 81, 3)) (k : G l g M κ K (pc + 3) lv (vR c2 :: r) X) : G l g M κ K pc lv (vR c :: r) X := by
  subst h2
  exact g_get (k := 37) hc (by decide) (show vwCl[8]? = some (RX8, TX8, 39) from rfl) rfl (by decide) lay_X8 (by rw [hM]; exact fl_RX8_81) rfl hd k
theorem gf_X8_84 {l : Launch} {g : Geo} {M : Me} {κ : Kx} {K : AV → Mm → Prop} {pc : Nat} {lv : Lv} {X : Mm} {r : List AV} {c : Nat} {c2 : Nat} (h2 : c + 25 = c2) (hM : M.1.cls = RX8) (hc : kd c = 8) (hd : decode M.2.1 pc = .ok (.getfield 84, 3)) (k : G l g M κ K (pc + 3) lv (vR c2 :: r) X) : G l g M κ K pc lv (vR c :: r) X := by
  subst h2
  exact g_get (k := 38) hc (by decide) (show vwCl[8]? = some (RX8, TX8, 39) from rfl) rfl (by decide) lay_X8 (by rw [hM]; exact fl_RX8_84) rfl hd k
theorem gf_X8_87 {l : Launch} {g : Geo} {M : Me} {κ : Kx} {K : AV → Mm → Prop} {pc : Nat} {lv : Lv} {X : Mm} {r : List AV} {c : Nat} (hM : M.1.cls = RX8) (hc : kd c = 8) (hd : decode M.2.1 pc = .ok (.getfield 87, 3)) (k : G l g M κ K (pc + 3) lv (vI (X c 0) :: r) X) : G l g M κ K pc lv (vR c :: r) X := g_get (k := 0) hc (by decide) (show vwCl[8]? = some (RX8, TX8, 39) from rfl) rfl (by decide) lay_X8 (by rw [hM]; exact fl_RX8_87) rfl hd k
theorem gf_X8_91 {l : Launch} {g : Geo} {M : Me} {κ : Kx} {K : AV → Mm → Prop} {pc : Nat} {lv : Lv} {X : Mm} {r : List AV} {c : Nat} (hM : M.1.cls = RX8) (hc : kd c = 8) (hd : decode M.2.1 pc = .ok (.getfield 91, 3)) (k : G l g M κ K (pc + 3) lv (vI (X c 3) :: r) X) : G l g M κ K pc lv (vR c :: r) X := g_get (k := 3) hc (by decide) (show vwCl[8]? = some (RX8, TX8, 39) from rfl) rfl (by decide) lay_X8 (by rw [hM]; exact fl_RX8_91) rfl hd k
theorem gf_X8_94 {l : Launch} {g : Geo} {M : Me} {κ : Kx} {K : AV → Mm → Prop} {pc : Nat} {lv : Lv} {X : Mm} {r : List AV} {c : Nat} (hM : M.1.cls = RX8) (hc : kd c = 8) (hd : decode M.2.1 pc = .ok (.getfield 94, 3)) (k : G l g M κ K (pc + 3) lv (vI (X c 5) :: r) X) : G l g M κ K pc lv (vR c :: r) X := g_get (k := 5) hc (by decide) (show vwCl[8]? = some (RX8, TX8, 39) from rfl) rfl (by decide) lay_X8 (by rw [hM]; exact fl_RX8_94) rfl hd k
theorem gf_X8_97 {l : Launch} {g : Geo} {M : Me} {κ : Kx} {K : AV → Mm → Prop} {pc : Nat} {lv : Lv} {X : Mm} {r : List AV} {c : Nat} (hM : M.1.cls = RX8) (hc : kd c = 8) (hd : decode M.2.1 pc = .ok (.getfield 97, 3)) (k : G l g M κ K (pc + 3) lv (vI (X c 13) :: r) X) : G l g M κ K pc lv (vR c :: r) X := g_get (k := 13) hc (by decide) (show vwCl[8]? = some (RX8, TX8, 39) from rfl) rfl (by decide) lay_X8 (by rw [hM]; exact fl_RX8_97) rfl hd k
theorem gf_X8_101 {l : Launch} {g : Geo} {M : Me} {κ : Kx} {K : AV → Mm → Prop} {pc : Nat} {lv : Lv} {X : Mm} {r : List AV} {c : Nat} (hM : M.1.cls = RX8) (hc : kd c = 8) (hd : decode M.2.1 pc = .ok (.getfield 101, 3)) (k : G l g M κ K (pc + 3) lv (vI (X c 11) :: r) X) : G l g M κ K pc lv (vR c :: r) X := g_get (k := 11) hc (by decide) (show vwCl[8]? = some (RX8, TX8, 39) from rfl) rfl (by decide) lay_X8 (by rw [hM]; exact fl_RX8_101) rfl hd k
theorem gf_X8_104 {l : Launch} {g : Geo} {M : Me} {κ : Kx} {K : AV → Mm → Prop} {pc : Nat} {lv : Lv} {X : Mm} {r : List AV} {c : Nat} (hM : M.1.cls = RX8) (hc : kd c = 8) (hd : decode M.2.1 pc = .ok (.getfield 104, 3)) (k : G l g M κ K (pc + 3) lv (vI (X c 12) :: r) X) : G l g M κ K pc lv (vR c :: r) X := g_get (k := 12) hc (by decide) (show vwCl[8]? = some (RX8, TX8, 39) from rfl) rfl (by decide) lay_X8 (by rw [hM]; exact fl_RX8_104) rfl hd k
theorem gf_X8_128 {l : Launch} {g : Geo} {M : Me} {κ : Kx} {K : AV → Mm → Prop} {pc : Nat} {lv : Lv} {X : Mm} {r : List AV} {c : Nat} (hM : M.1.cls = RX8) (hc : kd c = 8) (hd : decode M.2.1 pc = .ok (.getfield 128, 3)) (k : G l g M κ K (pc + 3) lv (vJ (X c 16) :: r) X) : G l g M κ K pc lv (vR c :: r) X := g_get (k := 16) hc (by decide) (show vwCl[8]? = some (RX8, TX8, 39) from rfl) rfl (by decide) lay_X8 (by rw [hM]; exact fl_RX8_128) rfl hd k
theorem gf_X8_132 {l : Launch} {g : Geo} {M : Me} {κ : Kx} {K : AV → Mm → Prop} {pc : Nat} {lv : Lv} {X : Mm} {r : List AV} {c : Nat} (hM : M.1.cls = RX8) (hc : kd c = 8) (hd : decode M.2.1 pc = .ok (.getfield 132, 3)) (k : G l g M κ K (pc + 3) lv (vJ (X c 17) :: r) X) : G l g M κ K pc lv (vR c :: r) X := g_get (k := 17) hc (by decide) (show vwCl[8]? = some (RX8, TX8, 39) from rfl) rfl (by decide) lay_X8 (by rw [hM]; exact fl_RX8_132) rfl hd k
theorem gf_X8_139 {l : Launch} {g : Geo} {M : Me} {κ : Kx} {K : AV → Mm → Prop} {pc : Nat} {lv : Lv} {X : Mm} {r : List AV} {c : Nat} (hM : M.1.cls = RX8) (hc : kd c = 8) (hd : decode M.2.1 pc = .ok (.getfield 139, 3)) (k : G l g M κ K (pc + 3) lv (vJ (X c 18) :: r) X) : G l g M κ K pc lv (vR c :: r) X := g_get (k := 18) hc (by decide) (show vwCl[8]? = some (RX8, TX8, 39) from rfl) rfl (by decide) lay_X8 (by rw [hM]; exact fl_RX8_139) rfl hd k
theorem gf_X8_142 {l : Launch} {g : Geo} {M : Me} {κ : Kx} {K : AV → Mm → Prop} {pc : Nat} {lv : Lv} {X : Mm} {r : List AV} {c : Nat} (hM : M.1.cls = RX8) (hc : kd c = 8) (hd : decode M.2.1 pc = .ok (.getfield 142, 3)) (k : G l g M κ K (pc + 3) lv (vJ (X c 19) :: r) X) : G l g M κ K pc lv (vR c :: r) X := g_get (k := 19) hc (by decide) (show vwCl[8]? = some (RX8, TX8, 39) from rfl) rfl (by decide) lay_X8 (by rw [hM]; exact fl_RX8_142) rfl hd k
theorem gf_X8_157 {l : Launch} {g : Geo} {M : Me} {κ : Kx} {K : AV → Mm → Prop} {pc : Nat} {lv : Lv} {X : Mm} {r : List AV} {c : Nat} (hM : M.1.cls = RX8) (hc : kd c = 8) (hd : decode M.2.1 pc = .ok (.getfield 157, 3)) (k : G l g M κ K (pc + 3) lv (vJ (X c 14) :: r) X) : G l g M κ K pc lv (vR c :: r) X := g_get (k := 14) hc (by decide) (show vwCl[8]? = some (RX8, TX8, 39) from rfl) rfl (by decide) lay_X8 (by rw [hM]; exact fl_RX8_157) rfl hd k
theorem gf_X8_160 {l : Launch} {g : Geo} {M : Me} {κ : Kx} {K : AV → Mm → Prop} {pc : Nat} {lv : Lv} {X : Mm} {r : List AV} {c : Nat} (hM : M.1.cls = RX8) (hc : kd c = 8) (hd : decode M.2.1 pc = .ok (.getfield 160, 3)) (k : G l g M κ K (pc + 3) lv (vJ (X c 15) :: r) X) : G l g M κ K pc lv (vR c :: r) X := g_get (k := 15) hc (by decide) (show vwCl[8]? = some (RX8, TX8, 39) from rfl) rfl (by decide) lay_X8 (by rw [hM]; exact fl_RX8_160) rfl hd k
theorem gf_X8_193 {l : Launch} {g : Geo} {M : Me} {κ : Kx} {K : AV → Mm → Prop} {pc : Nat} {lv : Lv} {X : Mm} {r : List AV} {c : Nat} (hM : M.1.cls = RX8) (hc : kd c = 8) (hd : decode M.2.1 pc = .ok (.getfield 193, 3)) (k : G l g M κ K (pc + 3) lv (vI (X c 25) :: r) X) : G l g M κ K pc lv (vR c :: r) X := g_get (k := 25) hc (by decide) (show vwCl[8]? = some (RX8, TX8, 39) from rfl) rfl (by decide) lay_X8 (by rw [hM]; exact fl_RX8_193) rfl hd k
theorem gf_X8_200 {l : Launch} {g : Geo} {M : Me} {κ : Kx} {K : AV → Mm → Prop} {pc : Nat} {lv : Lv} {X : Mm} {r : List AV} {c : Nat} (hM : M.1.cls = RX8) (hc : kd c = 8) (hd : decode M.2.1 pc = .ok (.getfield 200, 3)) (k : G l g M κ K (pc + 3) lv (vI (X c 35) :: r) X) : G l g M κ K pc lv (vR c :: r) X := g_get (k := 35) hc (by decide) (show vwCl[8]? = some (RX8, TX8, 39) from rfl) rfl (by decide) lay_X8 (by rw [hM]; exact fl_RX8_200) rfl hd k
theorem pf_X0_21 {l : Launch} {g : Geo} {M : Me} {κ : Kx} {K : AV → Mm → Prop} {pc : Nat} {lv : Lv} {X : Mm} {r : List AV} {c : Nat} {n : Int} (hM : M.1.cls = RX0) (hc : kd c = 0) (hd : decode M.2.1 pc = .ok (.putfield 21, 3)) (k : G l g M κ K (pc + 3) lv r (st2 X c 0 n)) : G l g M κ K pc lv (vI n :: vR c :: r) X := g_put (k := 0) (ty := .int) hc (by decide) (show vwCl[0]? = some (RX0, TX0, 2) from rfl) rfl (by decide) lay_X0 tyX0_ok nmX0 (by rw [hM]; exact fl_RX0_21) rfl (by decide +kernel) rfl rfl rfl hd k
theorem pf_X1_31 {l : Launch} {g : Geo} {M : Me} {κ : Kx} {K : AV → Mm → Prop} {pc : Nat} {lv : Lv} {X : Mm} {r : List AV} {c : Nat} {n : Int} (hM : M.1.cls = RX1) (hc : kd c = 1) (hd : decode M.2.1 pc = .ok (.putfield 31, 3)) (k : G l g M κ K (pc + 3) lv r (st2 X c 0 n)) : G l g M κ K pc lv (vI n :: vR c :: r) X := g_put (k := 0) (ty := .int) hc (by decide) (show vwCl[1]? = some (RX1, TX1, 6) from rfl) rfl (by decide) lay_X1 tyX1_ok nmX1 (by rw [hM]; exact fl_RX1_31) rfl (by decide +kernel) rfl rfl rfl hd k
theorem pf_X2_31 {l : Launch} {g : Geo} {M : Me} {κ : Kx} {K : AV → Mm → Prop} {pc : Nat} {lv : Lv} {X : Mm} {r : List AV} {c : Nat} {n : Int} (hM : M.1.cls = RX2) (hc : kd c = 2) (hd : decode M.2.1 pc = .ok (.putfield 31, 3)) (k : G l g M κ K (pc + 3) lv r (st2 X c 0 n)) : G l g M κ K pc lv (vI n :: vR c :: r) X := g_put (k := 0) (ty := .int) hc (by decide) (show vwCl[2]? = some (RX2, TX2, 6) from rfl) rfl (by decide) lay_X2 tyX2_ok nmX2 (by rw [hM]; exact fl_RX2_31) rfl (by decide +kernel) rfl rfl rfl hd k
theorem pf_X2_32 {l : Launch} {g : Geo} {M : Me} {κ : Kx} {K : AV → Mm → Prop} {pc : Nat} {lv : Lv} {X : Mm} {r : List AV} {c : Nat} {n : Int} (hM : M.1.cls = RX2) (hc : kd c = 2) (hd : decode M.2.1 pc = .ok (.putfield 32, 3)) (k : G l g M κ K (pc + 3) lv r (st2 X c 1 n)) : G l g M κ K pc lv (vI n :: vR c :: r) X := g_put (k := 1) (ty := .int) hc (by decide) (show vwCl[2]? = some (RX2, TX2, 6) from rfl) rfl (by decide) lay_X2 tyX2_ok nmX2 (by rw [hM]; exact fl_RX2_32) rfl (by decide +kernel) rfl rfl rfl hd k
theorem pf_X3_34 {l : Launch} {g : Geo} {M : Me} {κ : Kx} {K : AV → Mm → Prop} {pc : Nat} {lv : Lv} {X : Mm} {r : List AV} {c : Nat} {n : Int} (hM : M.1.cls = RX3) (hc : kd c = 3) (hd : decode M.2.1 pc = .ok (.putfield 34, 3)) (k : G l g M κ K (pc + 3) lv r (st2 X c 0 n)) : G l g M κ K pc lv (vI n :: vR c :: r) X := g_put (k := 0) (ty := .int) hc (by decide) (show vwCl[3]? = some (RX3, TX3, 9) from rfl) rfl (by decide) lay_X3 tyX3_ok nmX3 (by rw [hM]; exact fl_RX3_34) rfl (by decide +kernel) rfl rfl rfl hd k
theorem pf_X3_35 {l : Launch} {g : Geo} {M : Me} {κ : Kx} {K : AV → Mm → Prop} {pc : Nat} {lv : Lv} {X : Mm} {r : List AV} {c : Nat} {n : Int} (hM : M.1.cls = RX3) (hc : kd c = 3) (hd : decode M.2.1 pc = .ok (.putfield 35, 3)) (k : G l g M κ K (pc + 3) lv r (st2 X c 1 n)) : G l g M κ K pc lv (vI n :: vR c :: r) X := g_put (k := 1) (ty := .int) hc (by decide) (show vwCl[3]? = some (RX3, TX3, 9) from rfl) rfl (by decide) lay_X3 tyX3_ok nmX3 (by rw [hM]; exact fl_RX3_35) rfl (by decide +kernel) rfl rfl rfl hd k
theorem pf_X3_38 {l : Launch} {g : Geo} {M : Me} {κ : Kx} {K : AV → Mm → Prop} {pc : Nat} {lv : Lv} {X : Mm} {r : List AV} {c : Nat} {n : Int} (hM : M.1.cls = RX3) (hc : kd c = 3) (hd : decode M.2.1 pc = .ok (.putfield 38, 3)) (k : G l g M κ K (pc + 3) lv r (st2 X c 2 n)) : G l g M κ K pc lv (vI n :: vR c :: r) X := g_put (k := 2) (ty := .int) hc (by decide) (show vwCl[3]? = some (RX3, TX3, 9) from rfl) rfl (by decide) lay_X3 tyX3_ok nmX3 (by rw [hM]; exact fl_RX3_38) rfl (by decide +kernel) rfl rfl rfl hd k
theorem pf_X3_41 {l : Launch} {g : Geo} {M : Me} {κ : Kx} {K : AV → Mm → Prop} {pc : Nat} {lv : Lv} {X : Mm} {r : List AV} {c : Nat} {n : Int} (hM : M.1.cls = RX3) (hc : kd c = 3) (hd : decode M.2.1 pc = .ok (.putfield 41, 3)) (k : G l g M κ K (pc + 3) lv r (st2 X c 3 n)) : G l g M κ K pc lv (vI n :: vR c :: r) X := g_put (k := 3) (ty := .int) hc (by decide) (show vwCl[3]? = some (RX3, TX3, 9) from rfl) rfl (by decide) lay_X3 tyX3_ok nmX3 (by rw [hM]; exact fl_RX3_41) rfl (by decide +kernel) rfl rfl rfl hd k
theorem pf_X4_21 {l : Launch} {g : Geo} {M : Me} {κ : Kx} {K : AV → Mm → Prop} {pc : Nat} {lv : Lv} {X : Mm} {r : List AV} {c : Nat} {n : Int} (hM : M.1.cls = RX4) (hc : kd c = 4) (hd : decode M.2.1 pc = .ok (.putfield 21, 3)) (k : G l g M κ K (pc + 3) lv r (st2 X c 0 n)) : G l g M κ K pc lv (vI n :: vR c :: r) X := g_put (k := 0) (ty := .int) hc (by decide) (show vwCl[4]? = some (RX4, TX4, 4) from rfl) rfl (by decide) lay_X4 tyX4_ok nmX4 (by rw [hM]; exact fl_RX4_21) rfl (by decide +kernel) rfl rfl rfl hd k
theorem pf_X5_7 {l : Launch} {g : Geo} {M : Me} {κ : Kx} {K : AV → Mm → Prop} {pc : Nat} {lv : Lv} {X : Mm} {r : List AV} {c : Nat} {n : Int} (hz : n = 0 ∨ n = 1) (hM : M.1.cls = RX5) (hc : kd c = 5) (hd : decode M.2.1 pc = .ok (.putfield 7, 3)) (k : G l g M κ K (pc + 3) lv r (st2 X c 0 n)) : G l g M κ K pc lv (vI n :: vR c :: r) X := g_put (k := 0) (ty := .boolean) hc (by decide) (show vwCl[5]? = some (RX5, TX5, 3) from rfl) rfl (by decide) lay_X5 tyX5_ok nmX5 (by rw [hM]; exact fl_RX5_7) rfl (by decide +kernel) rfl (nar_zz hz) (fit_z hz) hd k
theorem pf_X5_13 {l : Launch} {g : Geo} {M : Me} {κ : Kx} {K : AV → Mm → Prop} {pc : Nat} {lv : Lv} {X : Mm} {r : List AV} {c : Nat} {n : Int} (hM : M.1.cls = RX5) (hc : kd c = 5) (hd : decode M.2.1 pc = .ok (.putfield 13, 3)) (k : G l g M κ K (pc + 3) lv r (st2 X c 1 n)) : G l g M κ K pc lv (vJ n :: vR c :: r) X := g_put (k := 1) (ty := .long) hc (by decide) (show vwCl[5]? = some (RX5, TX5, 3) from rfl) rfl (by decide) lay_X5 tyX5_ok nmX5 (by rw [hM]; exact fl_RX5_13) rfl (by decide +kernel) rfl rfl rfl hd k
theorem pf_X5_17 {l : Launch} {g : Geo} {M : Me} {κ : Kx} {K : AV → Mm → Prop} {pc : Nat} {lv : Lv} {X : Mm} {r : List AV} {c : Nat} {n : Int} (hM : M.1.cls = RX5) (hc : kd c = 5) (hd : decode M.2.1 pc = .ok (.putfield 17, 3)) (k : G l g M κ K (pc + 3) lv r (st2 X c 2 n)) : G l g M κ K pc lv (vJ n :: vR c :: r) X := g_put (k := 2) (ty := .long) hc (by decide) (show vwCl[5]? = some (RX5, TX5, 3) from rfl) rfl (by decide) lay_X5 tyX5_ok nmX5 (by rw [hM]; exact fl_RX5_17) rfl (by decide +kernel) rfl rfl rfl hd k
theorem pf_X6_34 {l : Launch} {g : Geo} {M : Me} {κ : Kx} {K : AV → Mm → Prop} {pc : Nat} {lv : Lv} {X : Mm} {r : List AV} {c : Nat} {n : Int} (hM : M.1.cls = RX6) (hc : kd c = 6) (hd : decode M.2.1 pc = .ok (.putfield 34, 3)) (k : G l g M κ K (pc + 3) lv r (st2 X c 0 n)) : G l g M κ K pc lv (vI n :: vR c :: r) X := g_put (k := 0) (ty := .int) hc (by decide) (show vwCl[6]? = some (RX6, TX6, 7) from rfl) rfl (by decide) lay_X6 tyX6_ok nmX6 (by rw [hM]; exact fl_RX6_34) rfl (by decide +kernel) rfl rfl rfl hd k
theorem pf_X6_38 {l : Launch} {g : Geo} {M : Me} {κ : Kx} {K : AV → Mm → Prop} {pc : Nat} {lv : Lv} {X : Mm} {r : List AV} {c : Nat} {n : Int} (hM : M.1.cls = RX6) (hc : kd c = 6) (hd : decode M.2.1 pc = .ok (.putfield 38, 3)) (k : G l g M κ K (pc + 3) lv r (st2 X c 1 n)) : G l g M κ K pc lv (vI n :: vR c :: r) X := g_put (k := 1) (ty := .int) hc (by decide) (show vwCl[6]? = some (RX6, TX6, 7) from rfl) rfl (by decide) lay_X6 tyX6_ok nmX6 (by rw [hM]; exact fl_RX6_38) rfl (by decide +kernel) rfl rfl rfl hd k
theorem pf_X6_53 {l : Launch} {g : Geo} {M : Me} {κ : Kx} {K : AV → Mm → Prop} {pc : Nat} {lv : Lv} {X : Mm} {r : List AV} {c : Nat} {n : Int} (hM : M.1.cls = RX6) (hc : kd c = 5) (hd : decode M.2.1 pc = .ok (.putfield 53, 3)) (k : G l g M κ K (pc + 3) lv r (st2 X c 1 n)) : G l g M κ K pc lv (vJ n :: vR c :: r) X := g_put (k := 1) (ty := .long) hc (by decide) (show vwCl[5]? = some (RX5, TX5, 3) from rfl) rfl (by decide) lay_X5 tyX5_ok nmX5 (by rw [hM]; exact fl_RX6_53) rfl (by decide +kernel) rfl rfl rfl hd k
theorem pf_X6_59 {l : Launch} {g : Geo} {M : Me} {κ : Kx} {K : AV → Mm → Prop} {pc : Nat} {lv : Lv} {X : Mm} {r : List AV} {c : Nat} {n : Int} (hM : M.1.cls = RX6) (hc : kd c = 5) (hd : decode M.2.1 pc = .ok (.putfield 59, 3)) (k : G l g M κ K (pc + 3) lv r (st2 X c 2 n)) : G l g M κ K pc lv (vJ n :: vR c :: r) X := g_put (k := 2) (ty := .long) hc (by decide) (show vwCl[5]? = some (RX5, TX5, 3) from rfl) rfl (by decide) lay_X5 tyX5_ok nmX5 (by rw [hM]; exact fl_RX6_59) rfl (by decide +kernel) rfl rfl rfl hd k
theorem pf_X7_7 {l : Launch} {g : Geo} {M : Me} {κ : Kx} {K : AV → Mm → Prop} {pc : Nat} {lv : Lv} {X : Mm} {r : List AV} {c : Nat} {n : Int} (hM : M.1.cls = RX7) (hc : kd c = 7) (hd : decode M.2.1 pc = .ok (.putfield 7, 3)) (k : G l g M κ K (pc + 3) lv r (st2 X c 0 n)) : G l g M κ K pc lv (vI n :: vR c :: r) X := g_put (k := 0) (ty := .int) hc (by decide) (show vwCl[7]? = some (RX7, TX7, 11) from rfl) rfl (by decide) lay_X7 tyX7_ok nmX7 (by rw [hM]; exact fl_RX7_7) rfl (by decide +kernel) rfl rfl rfl hd k
theorem pf_X7_74 {l : Launch} {g : Geo} {M : Me} {κ : Kx} {K : AV → Mm → Prop} {pc : Nat} {lv : Lv} {X : Mm} {r : List AV} {c : Nat} {n : Int} (hM : M.1.cls = RX7) (hc : kd c = 3) (hd : decode M.2.1 pc = .ok (.putfield 74, 3)) (k : G l g M κ K (pc + 3) lv r (st2 X c 0 n)) : G l g M κ K pc lv (vI n :: vR c :: r) X := g_put (k := 0) (ty := .int) hc (by decide) (show vwCl[3]? = some (RX3, TX3, 9) from rfl) rfl (by decide) lay_X3 tyX3_ok nmX3 (by rw [hM]; exact fl_RX7_74) rfl (by decide +kernel) rfl rfl rfl hd k
theorem pf_X7_77 {l : Launch} {g : Geo} {M : Me} {κ : Kx} {K : AV → Mm → Prop} {pc : Nat} {lv : Lv} {X : Mm} {r : List AV} {c : Nat} {n : Int} (hz : n = 0 ∨ n = 1) (hM : M.1.cls = RX7) (hc : kd c = 5) (hd : decode M.2.1 pc = .ok (.putfield 77, 3)) (k : G l g M κ K (pc + 3) lv r (st2 X c 0 n)) : G l g M κ K pc lv (vI n :: vR c :: r) X := g_put (k := 0) (ty := .boolean) hc (by decide) (show vwCl[5]? = some (RX5, TX5, 3) from rfl) rfl (by decide) lay_X5 tyX5_ok nmX5 (by rw [hM]; exact fl_RX7_77) rfl (by decide +kernel) rfl (nar_zz hz) (fit_z hz) hd k
theorem pf_X8_87 {l : Launch} {g : Geo} {M : Me} {κ : Kx} {K : AV → Mm → Prop} {pc : Nat} {lv : Lv} {X : Mm} {r : List AV} {c : Nat} {n : Int} (hM : M.1.cls = RX8) (hc : kd c = 8) (hd : decode M.2.1 pc = .ok (.putfield 87, 3)) (k : G l g M κ K (pc + 3) lv r (st2 X c 0 n)) : G l g M κ K pc lv (vI n :: vR c :: r) X := g_put (k := 0) (ty := .int) hc (by decide) (show vwCl[8]? = some (RX8, TX8, 39) from rfl) rfl (by decide) lay_X8 tyX8_ok nmX8 (by rw [hM]; exact fl_RX8_87) rfl (by decide +kernel) rfl rfl rfl hd k
theorem pf_X8_91 {l : Launch} {g : Geo} {M : Me} {κ : Kx} {K : AV → Mm → Prop} {pc : Nat} {lv : Lv} {X : Mm} {r : List AV} {c : Nat} {n : Int} (hM : M.1.cls = RX8) (hc : kd c = 8) (hd : decode M.2.1 pc = .ok (.putfield 91, 3)) (k : G l g M κ K (pc + 3) lv r (st2 X c 3 n)) : G l g M κ K pc lv (vI n :: vR c :: r) X := g_put (k := 3) (ty := .int) hc (by decide) (show vwCl[8]? = some (RX8, TX8, 39) from rfl) rfl (by decide) lay_X8 tyX8_ok nmX8 (by rw [hM]; exact fl_RX8_91) rfl (by decide +kernel) rfl rfl rfl hd k
theorem pf_X8_94 {l : Launch} {g : Geo} {M : Me} {κ : Kx} {K : AV → Mm → Prop} {pc : Nat} {lv : Lv} {X : Mm} {r : List AV} {c : Nat} {n : Int} (hM : M.1.cls = RX8) (hc : kd c = 8) (hd : decode M.2.1 pc = .ok (.putfield 94, 3)) (k : G l g M κ K (pc + 3) lv r (st2 X c 5 n)) : G l g M κ K pc lv (vI n :: vR c :: r) X := g_put (k := 5) (ty := .int) hc (by decide) (show vwCl[8]? = some (RX8, TX8, 39) from rfl) rfl (by decide) lay_X8 tyX8_ok nmX8 (by rw [hM]; exact fl_RX8_94) rfl (by decide +kernel) rfl rfl rfl hd k
theorem pf_X8_97 {l : Launch} {g : Geo} {M : Me} {κ : Kx} {K : AV → Mm → Prop} {pc : Nat} {lv : Lv} {X : Mm} {r : List AV} {c : Nat} {n : Int} (hz : n = 0 ∨ n = 1) (hM : M.1.cls = RX8) (hc : kd c = 8) (hd : decode M.2.1 pc = .ok (.putfield 97, 3)) (k : G l g M κ K (pc + 3) lv r (st2 X c 13 n)) : G l g M κ K pc lv (vI n :: vR c :: r) X := g_put (k := 13) (ty := .boolean) hc (by decide) (show vwCl[8]? = some (RX8, TX8, 39) from rfl) rfl (by decide) lay_X8 tyX8_ok nmX8 (by rw [hM]; exact fl_RX8_97) rfl (by decide +kernel) rfl (nar_zz hz) (fit_z hz) hd k
theorem pf_X8_101 {l : Launch} {g : Geo} {M : Me} {κ : Kx} {K : AV → Mm → Prop} {pc : Nat} {lv : Lv} {X : Mm} {r : List AV} {c : Nat} {n : Int} (hM : M.1.cls = RX8) (hc : kd c = 8) (hd : decode M.2.1 pc = .ok (.putfield 101, 3)) (k : G l g M κ K (pc + 3) lv r (st2 X c 11 n)) : G l g M κ K pc lv (vI n :: vR c :: r) X := g_put (k := 11) (ty := .int) hc (by decide) (show vwCl[8]? = some (RX8, TX8, 39) from rfl) rfl (by decide) lay_X8 tyX8_ok nmX8 (by rw [hM]; exact fl_RX8_101) rfl (by decide +kernel) rfl rfl rfl hd k
theorem pf_X8_104 {l : Launch} {g : Geo} {M : Me} {κ : Kx} {K : AV → Mm → Prop} {pc : Nat} {lv : Lv} {X : Mm} {r : List AV} {c : Nat} {n : Int} (hM : M.1.cls = RX8) (hc : kd c = 8) (hd : decode M.2.1 pc = .ok (.putfield 104, 3)) (k : G l g M κ K (pc + 3) lv r (st2 X c 12 n)) : G l g M κ K pc lv (vI n :: vR c :: r) X := g_put (k := 12) (ty := .int) hc (by decide) (show vwCl[8]? = some (RX8, TX8, 39) from rfl) rfl (by decide) lay_X8 tyX8_ok nmX8 (by rw [hM]; exact fl_RX8_104) rfl (by decide +kernel) rfl rfl rfl hd k
theorem pf_X8_128 {l : Launch} {g : Geo} {M : Me} {κ : Kx} {K : AV → Mm → Prop} {pc : Nat} {lv : Lv} {X : Mm} {r : List AV} {c : Nat} {n : Int} (hM : M.1.cls = RX8) (hc : kd c = 8) (hd : decode M.2.1 pc = .ok (.putfield 128, 3)) (k : G l g M κ K (pc + 3) lv r (st2 X c 16 n)) : G l g M κ K pc lv (vJ n :: vR c :: r) X := g_put (k := 16) (ty := .long) hc (by decide) (show vwCl[8]? = some (RX8, TX8, 39) from rfl) rfl (by decide) lay_X8 tyX8_ok nmX8 (by rw [hM]; exact fl_RX8_128) rfl (by decide +kernel) rfl rfl rfl hd k
theorem pf_X8_132 {l : Launch} {g : Geo} {M : Me} {κ : Kx} {K : AV → Mm → Prop} {pc : Nat} {lv : Lv} {X : Mm} {r : List AV} {c : Nat} {n : Int} (hM : M.1.cls = RX8) (hc : kd c = 8) (hd : decode M.2.1 pc = .ok (.putfield 132, 3)) (k : G l g M κ K (pc + 3) lv r (st2 X c 17 n)) : G l g M κ K pc lv (vJ n :: vR c :: r) X := g_put (k := 17) (ty := .long) hc (by decide) (show vwCl[8]? = some (RX8, TX8, 39) from rfl) rfl (by decide) lay_X8 tyX8_ok nmX8 (by rw [hM]; exact fl_RX8_132) rfl (by decide +kernel) rfl rfl rfl hd k
theorem pf_X8_139 {l : Launch} {g : Geo} {M : Me} {κ : Kx} {K : AV → Mm → Prop} {pc : Nat} {lv : Lv} {X : Mm} {r : List AV} {c : Nat} {n : Int} (hM : M.1.cls = RX8) (hc : kd c = 8) (hd : decode M.2.1 pc = .ok (.putfield 139, 3)) (k : G l g M κ K (pc + 3) lv r (st2 X c 18 n)) : G l g M κ K pc lv (vJ n :: vR c :: r) X := g_put (k := 18) (ty := .long) hc (by decide) (show vwCl[8]? = some (RX8, TX8, 39) from rfl) rfl (by decide) lay_X8 tyX8_ok nmX8 (by rw [hM]; exact fl_RX8_139) rfl (by decide +kernel) rfl rfl rfl hd k
theorem pf_X8_142 {l : Launch} {g : Geo} {M : Me} {κ : Kx} {K : AV → Mm → Prop} {pc : Nat} {lv : Lv} {X : Mm} {r : List AV} {c : Nat} {n : Int} (hM : M.1.cls = RX8) (hc : kd c = 8) (hd : decode M.2.1 pc = .ok (.putfield 142, 3)) (k : G l g M κ K (pc + 3) lv r (st2 X c 19 n)) : G l g M κ K pc lv (vJ n :: vR c :: r) X := g_put (k := 19) (ty := .long) hc (by decide) (show vwCl[8]? = some (RX8, TX8, 39) from rfl) rfl (by decide) lay_X8 tyX8_ok nmX8 (by rw [hM]; exact fl_RX8_142) rfl (by decide +kernel) rfl rfl rfl hd k
theorem pf_X8_157 {l : Launch} {g : Geo} {M : Me} {κ : Kx} {K : AV → Mm → Prop} {pc : Nat} {lv : Lv} {X : Mm} {r : List AV} {c : Nat} {n : Int} (hM : M.1.cls = RX8) (hc : kd c = 8) (hd : decode M.2.1 pc = .ok (.putfield 157, 3)) (k : G l g M κ K (pc + 3) lv r (st2 X c 14 n)) : G l g M κ K pc lv (vJ n :: vR c :: r) X := g_put (k := 14) (ty := .long) hc (by decide) (show vwCl[8]? = some (RX8, TX8, 39) from rfl) rfl (by decide) lay_X8 tyX8_ok nmX8 (by rw [hM]; exact fl_RX8_157) rfl (by decide +kernel) rfl rfl rfl hd k
theorem pf_X8_160 {l : Launch} {g : Geo} {M : Me} {κ : Kx} {K : AV → Mm → Prop} {pc : Nat} {lv : Lv} {X : Mm} {r : List AV} {c : Nat} {n : Int} (hM : M.1.cls = RX8) (hc : kd c = 8) (hd : decode M.2.1 pc = .ok (.putfield 160, 3)) (k : G l g M κ K (pc + 3) lv r (st2 X c 15 n)) : G l g M κ K pc lv (vJ n :: vR c :: r) X := g_put (k := 15) (ty := .long) hc (by decide) (show vwCl[8]? = some (RX8, TX8, 39) from rfl) rfl (by decide) lay_X8 tyX8_ok nmX8 (by rw [hM]; exact fl_RX8_160) rfl (by decide +kernel) rfl rfl rfl hd k
theorem pf_X8_193 {l : Launch} {g : Geo} {M : Me} {κ : Kx} {K : AV → Mm → Prop} {pc : Nat} {lv : Lv} {X : Mm} {r : List AV} {c : Nat} {n : Int} (hM : M.1.cls = RX8) (hc : kd c = 8) (hd : decode M.2.1 pc = .ok (.putfield 193, 3)) (k : G l g M κ K (pc + 3) lv r (st2 X c 25 n)) : G l g M κ K pc lv (vI n :: vR c :: r) X := g_put (k := 25) (ty := .int) hc (by decide) (show vwCl[8]? = some (RX8, TX8, 39) from rfl) rfl (by decide) lay_X8 tyX8_ok nmX8 (by rw [hM]; exact fl_RX8_193) rfl (by decide +kernel) rfl rfl rfl hd k
theorem pf_X8_200 {l : Launch} {g : Geo} {M : Me} {κ : Kx} {K : AV → Mm → Prop} {pc : Nat} {lv : Lv} {X : Mm} {r : List AV} {c : Nat} {n : Int} (hM : M.1.cls = RX8) (hc : kd c = 8) (hd : decode M.2.1 pc = .ok (.putfield 200, 3)) (k : G l g M κ K (pc + 3) lv r (st2 X c 35 n)) : G l g M κ K pc lv (vI n :: vR c :: r) X := g_put (k := 35) (ty := .int) hc (by decide) (show vwCl[8]? = some (RX8, TX8, 39) from rfl) rfl (by decide) lay_X8 tyX8_ok nmX8 (by rw [hM]; exact fl_RX8_200) rfl (by decide +kernel) rfl rfl rfl hd k
theorem bv_of (a : Int) : (Int32.ofInt a).toBitVec.toNat = (a % 4294967296).toNat := by
  rw [Int32.toBitVec_ofInt, BitVec.toNat_ofInt]; rfl
theorem i32_bv {x y : Int32} (h : x.toBitVec.toNat = y.toBitVec.toNat) : x = y := Int32.toBitVec_inj.mp (BitVec.eq_of_toNat_eq h)
theorem sh_amt : ∀ k : Fin 32, ((Int32.ofInt ((k : Nat) : Int) &&& 31).toBitVec.smod 32).toNat = (k : Nat) := by decide
theorem sh_amu : ∀ k : Fin 32, (((Int32.ofInt ((k : Nat) : Int)).toUInt32 &&& Int32.toUInt32 31).toBitVec % 32).toNat = (k : Nat) := by decide
theorem sh_l (a : Int) {k : Nat} (hk : k < 32) : Int32.ofInt a <<< (Int32.ofInt (k : Int) &&& 31) = Int32.ofInt (a * 2 ^ k) := by
  apply i32_bv
  rw [pk_shl _ _ k (sh_amt ⟨k, hk⟩), bv_of, bv_of]
  have h1 : 0 ≤ a % 4294967296 := by omega
  apply Int.ofNat_inj.mp
  rw [Int.toNat_of_nonneg (by omega)]
  simp only [Int.ofNat_eq_natCast, Int.natCast_emod, Int.natCast_mul, Int.natCast_pow]
  rw [Int.toNat_of_nonneg h1]
  have h2 : ((2 : Nat) : Int) ^ 32 = 4294967296 := rfl
  show (a % 4294967296 * ((2 : Nat) : Int) ^ k) % ((2 : Nat) : Int) ^ 32 = _
  rw [h2, Int.mul_emod, Int.emod_emod, ← Int.mul_emod]; rfl
theorem sh_r {a : Int} (ha : -2147483648 ≤ a ∧ a < 2147483648) {k : Nat} (hk : k < 32) : Int32.ofInt a >>> (Int32.ofInt (k : Int) &&& 31) = Int32.ofInt (a / 2 ^ k) := by
  apply Int32.toInt_inj.mp
  have hp : (1 : Int) ≤ 2 ^ k := by exact_mod_cast Nat.one_le_two_pow
  have h1 : a / 2 ^ k ≤ a.natAbs := Int.le_trans Int.le_natAbs (by exact_mod_cast (show (a / 2 ^ k).natAbs ≤ a.natAbs from Int.natAbs_ediv_le_natAbs a (2 ^ k)))
  have h2 : -(a.natAbs : Int) ≤ a / 2 ^ k := by
    have := Int.natAbs_ediv_le_natAbs a (2 ^ k)
    omega
  rw [pk_shr _ _ k (sh_amt ⟨k, hk⟩), i32_le ha, i32_le (by
    rcases Int.lt_or_le a 0 with q | q
    · have h3 : a / 2 ^ k < 0 := Int.ediv_neg_of_neg_of_pos q (by omega)
      omega
    · omega), Int.shiftRight_eq_div_pow]
  rfl
theorem sh_u (a : Int) {k : Nat} (hk : k < 32) : ((Int32.ofInt a).toUInt32 >>> ((Int32.ofInt (k : Int)).toUInt32 &&& Int32.toUInt32 31)).toInt32 = Int32.ofInt ((a % 4294967296) / 2 ^ k) := by
  apply i32_bv
  rw [pk_ushr _ _ k (sh_amu ⟨k, hk⟩), bv_of, bv_of]
  have h1 : 0 ≤ a % 4294967296 := by omega
  have hp : (1 : Int) ≤ 2 ^ k := by exact_mod_cast Nat.one_le_two_pow
  have h2 : 0 ≤ (a % 4294967296) / 2 ^ k := Int.ediv_nonneg h1 (by omega)
  have h3 : (a % 4294967296) / 2 ^ k ≤ a % 4294967296 := Int.ediv_le_self _ h1
  rw [Int.emod_eq_of_lt h2 (by omega)]
  apply Int.ofNat_inj.mp
  rw [Int.toNat_of_nonneg h2, Int.natCast_ediv, Int.toNat_of_nonneg h1, Int.natCast_pow]
  rfl
theorem an_m (a : Int) {k : Nat} (hk : k ≤ 31) : Int32.ofInt a &&& Int32.ofInt (2 ^ k - 1) = Int32.ofInt (a % 2 ^ k) := by
  have hp : (1 : Int) ≤ 2 ^ k := by exact_mod_cast Nat.one_le_two_pow
  have hk2 : (2 : Int) ^ k ≤ 2 ^ 31 := by exact_mod_cast Nat.pow_le_pow_right (by decide) hk
  rw [pk_and (Int32.ofInt a) k (by
    rw [bv_of, Int.emod_eq_of_lt (by omega) (by omega)]
    have : ((2 ^ k - 1 : Nat) : Int) = 2 ^ k - 1 := by
      rw [Int.natCast_sub Nat.one_le_two_pow]; simp
    omega), bv_of]
  unfold nI
  rw [← Int32.ofInt_eq_ofNat]
  congr 1
  have h1 : 0 ≤ a % 4294967296 := by omega
  rw [Int.natCast_emod, Int.toNat_of_nonneg h1, Int.natCast_pow]
  show a % 4294967296 % 2 ^ k = a % 2 ^ k
  apply Int.emod_emod_of_dvd
  exact ⟨2 ^ (32 - k), by rw [← Int.pow_add, show k + (32 - k) = 32 by omega]; rfl⟩
theorem or_n (a b : Nat) : Int32.ofInt (a : Int) ||| Int32.ofInt (b : Int) = Int32.ofInt ((a ||| b : Nat) : Int) := by
  apply Int32.toBitVec_inj.mp
  rw [Int32.toBitVec_or, Int32.toBitVec_ofInt, Int32.toBitVec_ofInt, Int32.toBitVec_ofInt, BitVec.ofInt_natCast, BitVec.ofInt_natCast, BitVec.ofInt_natCast]
  exact (BitVec.ofNat_or).symm
theorem g_ishl {l : Launch} {g : Geo} {M : Me} {κ : Kx} {K : AV → Mm → Prop} {pc : Nat} {lv : Lv} {X : Mm} {r : List AV} {a i : Int} (j : Nat) (hi : i = (j : Int)) (hj : j < 32) (hd : decode M.2.1 pc = .ok (.ishl, 1)) (k : G l g M κ K (pc + 1) lv (vI (a * 2 ^ j) :: r) X) : G l g M κ K pc lv (vI i :: vI a :: r) X := by
  obtain ⟨p, e, s, m, args, below, meth, c, A, Q, kc, ks⟩ := κ
  intro O H locs ls hP hS hl
  subst hi
  refine lv_ishl O.1 O.2.1 hd ?_
  rw [sh_l a hj]
  exact k O H locs ls hP hS hl
theorem g_ishr {l : Launch} {g : Geo} {M : Me} {κ : Kx} {K : AV → Mm → Prop} {pc : Nat} {lv : Lv} {X : Mm} {r : List AV} {a i : Int} (j : Nat) (ha : -2147483648 ≤ a ∧ a < 2147483648) (hi : i = (j : Int)) (hj : j < 32) (hd : decode M.2.1 pc = .ok (.ishr, 1)) (k : G l g M κ K (pc + 1) lv (vI (a / 2 ^ j) :: r) X) : G l g M κ K pc lv (vI i :: vI a :: r) X := by
  obtain ⟨p, e, s, m, args, below, meth, c, A, Q, kc, ks⟩ := κ
  intro O H locs ls hP hS hl
  subst hi
  refine lv_ishr O.1 O.2.1 hd ?_
  rw [sh_r ha hj]
  exact k O H locs ls hP hS hl
theorem g_iushr {l : Launch} {g : Geo} {M : Me} {κ : Kx} {K : AV → Mm → Prop} {pc : Nat} {lv : Lv} {X : Mm} {r : List AV} {a i : Int} (j : Nat) (hi : i = (j : Int)) (hj : j < 32) (hd : decode M.2.1 pc = .ok (.iushr, 1)) (k : G l g M κ K (pc + 1) lv (vI ((a % 4294967296) / 2 ^ j) :: r) X) : G l g M κ K pc lv (vI i :: vI a :: r) X := by
  obtain ⟨p, e, s, m, args, below, meth, c, A, Q, kc, ks⟩ := κ
  intro O H locs ls hP hS hl
  subst hi
  exact lv_iushr O.1 O.2.1 hd (sh_u a hj) (k O H locs ls hP hS hl)
theorem g_iand {l : Launch} {g : Geo} {M : Me} {κ : Kx} {K : AV → Mm → Prop} {pc : Nat} {lv : Lv} {X : Mm} {r : List AV} {a b : Int} (j : Nat) (hb : b = 2 ^ j - 1) (hj : j ≤ 31) (hd : decode M.2.1 pc = .ok (.iand, 1)) (k : G l g M κ K (pc + 1) lv (vI (a % 2 ^ j) :: r) X) : G l g M κ K pc lv (vI b :: vI a :: r) X := by
  obtain ⟨p, e, s, m, args, below, meth, c, A, Q, kc, ks⟩ := κ
  intro O H locs ls hP hS hl
  subst hb
  refine lv_iand O.1 O.2.1 hd ?_
  rw [an_m a hj]
  exact k O H locs ls hP hS hl
theorem g_ior {l : Launch} {g : Geo} {M : Me} {κ : Kx} {K : AV → Mm → Prop} {pc : Nat} {lv : Lv} {X : Mm} {r : List AV} {a b : Int} (x y : Nat) (ha : a = (x : Int)) (hb : b = (y : Int)) (hd : decode M.2.1 pc = .ok (.ior, 1)) (k : G l g M κ K (pc + 1) lv (vI ((x ||| y : Nat) : Int) :: r) X) : G l g M κ K pc lv (vI b :: vI a :: r) X := by
  obtain ⟨p, e, s, m, args, below, meth, c, A, Q, kc, ks⟩ := κ
  intro O H locs ls hP hS hl
  subst ha
  subst hb
  refine lv_ior O.1 O.2.1 hd ?_
  rw [or_n]
  exact k O H locs ls hP hS hl
theorem g_idiv {l : Launch} {g : Geo} {M : Me} {κ : Kx} {K : AV → Mm → Prop} {pc : Nat} {lv : Lv} {X : Mm} {r : List AV} {a b : Int} (ha : 0 ≤ a ∧ a < 2147483648) (hb : 0 < b ∧ b < 2147483648) (hd : decode M.2.1 pc = .ok (.idiv, 1)) (k : G l g M κ K (pc + 1) lv (vI (a / b) :: r) X) : G l g M κ K pc lv (vI b :: vI a :: r) X := by
  obtain ⟨p, e, s, m, args, below, meth, c, A, Q, kc, ks⟩ := κ
  intro O H locs ls hP hS hl
  refine lv_idiv O.1 O.2.1 hd ?_ ?_
  · intro q
    rw [i32_0, i32_eq (by omega) (by omega)] at q
    omega
  · have e1 : Int32.ofInt a / Int32.ofInt b = Int32.ofInt (a / b) := by
      apply Int32.toInt_inj.mp
      have h1 : a / b ≤ a := Int.ediv_le_self _ ha.1
      have h2 : 0 ≤ a / b := Int.ediv_nonneg ha.1 (by omega)
      rw [Int32.toInt_div_of_ne_left _ _ (fun q => by
        have := congrArg Int32.toInt q
        rw [i32_le (by omega)] at this
        have h3 : Int32.minValue.toInt = -2147483648 := by decide
        omega), i32_le (by omega), i32_le (by omega), i32_le (by omega), Int.tdiv_eq_ediv_of_nonneg ha.1]
    rw [e1]
    exact k O H locs ls hP hS hl
theorem g_tabIn {l : Launch} {g : Geo} {M : Me} {κ : Kx} {K : AV → Mm → Prop} {pc : Nat} {lv : Lv} {X : Mm} {r : List AV} {a d lo hi off : Int} {offs : Array Int} {len t : Nat} (hd : decode M.2.1 pc = .ok (.tableswitch d lo hi offs, len)) (ha : -2147483648 ≤ a ∧ a < 2147483648) (h1 : lo ≤ a) (h2 : a ≤ hi) (ho : offs[(a - lo).toNat]? = some off) (ht : (pc : Int) + off = (t : Int)) (k : G l g M κ K t lv r X) : G l g M κ K pc lv (vI a :: r) X := by
  obtain ⟨p, e, s, m, args, below, meth, c, A, Q, kc, ks⟩ := κ
  intro O H locs ls hP hS hl
  exact lv_tableIn O.1 O.2.1 hd (by rw [i32_le ha]; omega) (by rw [i32_le ha]; omega) (by rw [i32_le ha]; exact ho) ht (k O H locs ls hP hS hl)
theorem g_tabOut {l : Launch} {g : Geo} {M : Me} {κ : Kx} {K : AV → Mm → Prop} {pc : Nat} {lv : Lv} {X : Mm} {r : List AV} {a d lo hi : Int} {offs : Array Int} {len t : Nat} (hd : decode M.2.1 pc = .ok (.tableswitch d lo hi offs, len)) (ha : -2147483648 ≤ a ∧ a < 2147483648) (h1 : a < lo ∨ hi < a) (ht : (pc : Int) + d = (t : Int)) (k : G l g M κ K t lv r X) : G l g M κ K pc lv (vI a :: r) X := by
  obtain ⟨p, e, s, m, args, below, meth, c, A, Q, kc, ks⟩ := κ
  intro O H locs ls hP hS hl
  exact lv_tableOut O.1 O.2.1 hd (by rw [i32_le ha]; exact h1) ht (k O H locs ls hP hS hl)
theorem wl_setx (g : Geo) (X : Mm) {a : Nat} (x : Nat → Int) (ha : a < 70) {q : va_E} (hq : q = ce g a x) : (wl g X).set a (g.1 a, q) = wl g (fun c k => if c = a then x k else X c k) := by
  subst hq
  apply List.ext_getElem?
  intro i
  rcases Nat.lt_or_ge i 70 with hi | hi
  · rw [wl_at g _ hi]
    by_cases e : i = a
    · subst e
      rw [List.getElem?_set_self (by simp [wl]; exact ha)]
      simp
    · rw [List.getElem?_set_ne (fun q => e q.symm), wl_at g X hi]
      simp [e]
  · rw [List.getElem?_eq_none (by simp [wl]; exact hi), List.getElem?_eq_none (by simp [wl]; exact hi)]
/-- the first n of a row are those of another one -/
def cpy (X : Mm) (a b n : Nat) : Mm := fun c k => if c = b then (if k < n then X a k else X b k) else X c k
def CopL (M : Me) (idx : Nat) : Prop := Cond.methodLink M.1.cls idx arraycopyName ∈ TB
theorem g_copyi {l : Launch} {g : Geo} {M : Me} {κ : Kx} {K : AV → Mm → Prop} {pc : Nat} {lv : Lv} {X : Mm} {r : List AV} {a b : Nat} {i : Int} (n : Nat) {idx : Nat} (hi : i = (n : Int)) (ha : kd a = 9) (hb : kd b = 9) (hna : n ≤ ln a) (hnb : n ≤ ln b) (hn : n < 2147483648) (hl2 : CopL M idx) (hfr : 1 ≤ M.2.2.2.2.1) (hlo : (r.map cat).sum + (nativeFrameWords "java/lang/System" "arraycopy" 5 + 11) ≤ M.2.2.2.2.2) (hd : decode M.2.1 pc = .ok (.invokestatic idx, 3)) (k : G l g M κ K (pc + 3) lv r (cpy X a b n)) : G l g M κ K pc lv (vI i :: vI 0 :: vR b :: vI 0 :: vR a :: r) X := by
  obtain ⟨p, e, s, m, args, below, meth, c, A, Q, kc, ks⟩ := κ
  intro O H locs ls hP hS hl
  subst hi
  have h70a := kd_lt ha (by omega)
  have hwa := wl_at g X h70a
  rw [ce_i ha] at hwa
  have h70 := kd_lt hb (by omega)
  have hw := wl_at g X h70
  rw [ce_i hb] at hw
  have h0 : (Int32.ofInt 0).toNatClampNeg = 0 := rfl
  have hc : (Int32.ofInt (n : Int)).toNatClampNeg = n := i32_ix (by omega)
  refine va_copyi (ty := .int) O.1 O.2.1 (O.2.2.1.trans hl.1.symm) O.2.2.2.1 (O.2.2.2.2.1 _ hl2) (O.2.2.2.2.1 _ nm_arraycopy) (O.2.2.2.2.1 _ sm_arraycopy) (O.2.2.2.2.1 _ in_java_lang_System) O.2.2.2.2.2.1 hP (wl_D O.2.2.2.2.2.2.2.1 X (fun i hi => O.2.2.2.2.2.2.2.2.1 _ (Or.inl ⟨i, hi, rfl⟩))) hS a b 0 0 hwa hw rfl rfl rfl (by decide) (by decide) (by
      rw [i32_0, i32_lt (by omega) (by omega)]; omega) (by rw [h0, hc]; omega) (by rw [h0, hc]; omega) (fun _ _ => rfl) hfr (by rw [mc_sum]; exact hlo) hd (fun H1 locs1 hP1 hD1 hS1 => ?_)
  rw [h0, hc, wl_setx g X (fun j => if j < n then X a j else X b j) h70 (by
    rw [ce_i hb]
    congr 4
    funext j
    unfold va_cpy
    by_cases e : j < n
    · rw [if_pos (by omega), if_pos e]; simp
    · rw [if_neg (by omega), if_neg e])] at hP1
  exact k O H1 locs1 ls hP1 hS1 hl
theorem g_copyl {l : Launch} {g : Geo} {M : Me} {κ : Kx} {K : AV → Mm → Prop} {pc : Nat} {lv : Lv} {X : Mm} {r : List AV} {a b : Nat} {i : Int} (n : Nat) {idx : Nat} (hi : i = (n : Int)) (ha : kd a = 10) (hb : kd b = 10) (hna : n ≤ ln a) (hnb : n ≤ ln b) (hn : n < 2147483648) (hl2 : CopL M idx) (hfr : 1 ≤ M.2.2.2.2.1) (hlo : (r.map cat).sum + (nativeFrameWords "java/lang/System" "arraycopy" 5 + 11) ≤ M.2.2.2.2.2) (hd : decode M.2.1 pc = .ok (.invokestatic idx, 3)) (k : G l g M κ K (pc + 3) lv r (cpy X a b n)) : G l g M κ K pc lv (vI i :: vI 0 :: vR b :: vI 0 :: vR a :: r) X := by
  obtain ⟨p, e, s, m, args, below, meth, c, A, Q, kc, ks⟩ := κ
  intro O H locs ls hP hS hl
  subst hi
  have h70a := kd_lt ha (by omega)
  have hwa := wl_at g X h70a
  rw [ce_j ha] at hwa
  have h70 := kd_lt hb (by omega)
  have hw := wl_at g X h70
  rw [ce_j hb] at hw
  have h0 : (Int32.ofInt 0).toNatClampNeg = 0 := rfl
  have hc : (Int32.ofInt (n : Int)).toNatClampNeg = n := i32_ix (by omega)
  refine va_copyl (ty := .long) O.1 O.2.1 (O.2.2.1.trans hl.1.symm) O.2.2.2.1 (O.2.2.2.2.1 _ hl2) (O.2.2.2.2.1 _ nm_arraycopy) (O.2.2.2.2.1 _ sm_arraycopy) (O.2.2.2.2.1 _ in_java_lang_System) O.2.2.2.2.2.1 hP (wl_D O.2.2.2.2.2.2.2.1 X (fun i hi => O.2.2.2.2.2.2.2.2.1 _ (Or.inl ⟨i, hi, rfl⟩))) hS a b 1 1 hwa hw rfl rfl rfl (by decide) (by decide) (by
      rw [i32_0, i32_lt (by omega) (by omega)]; omega) (by rw [h0, hc]; omega) (by rw [h0, hc]; omega) (fun _ _ => rfl) hfr (by rw [mc_sum]; exact hlo) hd (fun H1 locs1 hP1 hD1 hS1 => ?_)
  rw [h0, hc, wl_setx g X (fun j => if j < n then X a j else X b j) h70 (by
    rw [ce_j hb]
    congr 4
    apply congrArg
    funext j
    unfold va_cpy
    by_cases e : j < n
    · rw [if_pos (by omega), if_pos e]; simp
    · rw [if_neg (by omega), if_neg e])] at hP1
  exact k O H1 locs1 ls hP1 hS1 hl
theorem g_max {l : Launch} {g : Geo} {M : Me} {κ : Kx} {K : AV → Mm → Prop} {pc : Nat} {lv : Lv} {X : Mm} {r : List AV} {a b : Int} {idx : Nat} (hl2 : Cond.methodLink M.1.cls idx Lib.Math.max.name ∈ TB) (hfr : 1 ≤ M.2.2.2.2.1) (hlo : (r.map cat).sum + 13 ≤ M.2.2.2.2.2) (ha : -2147483648 ≤ a ∧ a < 2147483648) (hb : -2147483648 ≤ b ∧ b < 2147483648) (hd : decode M.2.1 pc = .ok (.invokestatic idx, 3)) (k : G l g M κ K (pc + 3) lv (vI (if a < b then b else a) :: r) X) : G l g M κ K pc lv (vI b :: vI a :: r) X := by
  obtain ⟨p, e, s, m, args, below, meth, c, A, Q, kc, ks⟩ := κ
  intro O H locs ls hP hS hl
  refine va_mmax O.1 O.2.1 (O.2.2.1.trans hl.1.symm) O.2.2.2.1 (O.2.2.2.2.1 _ hl2) (O.2.2.2.2.1 _ sm_max) (O.2.2.2.2.1 _ in_java_lang_Math) (O.2.2.2.2.1 _ cd_max) hfr (by rw [mc_sum]; exact hlo) (Nat.le_refl _) (Nat.le_refl _) hd ?_
  have h := k O H locs ls hP hS hl
  by_cases q : a < b
  · rw [if_pos q] at h
    rw [if_pos ((i32_lt ha hb).mpr q)]
    exact h
  · rw [if_neg q] at h
    rw [if_neg (fun w => q ((i32_lt ha hb).mp w))]
    exact h
theorem g_min {l : Launch} {g : Geo} {M : Me} {κ : Kx} {K : AV → Mm → Prop} {pc : Nat} {lv : Lv} {X : Mm} {r : List AV} {a b : Int} {idx : Nat} (hl2 : Cond.methodLink M.1.cls idx Lib.Math.min.name ∈ TB) (hfr : 1 ≤ M.2.2.2.2.1) (hlo : (r.map cat).sum + 13 ≤ M.2.2.2.2.2) (ha : -2147483648 ≤ a ∧ a < 2147483648) (hb : -2147483648 ≤ b ∧ b < 2147483648) (hd : decode M.2.1 pc = .ok (.invokestatic idx, 3)) (k : G l g M κ K (pc + 3) lv (vI (if b < a then b else a) :: r) X) : G l g M κ K pc lv (vI b :: vI a :: r) X := by
  obtain ⟨p, e, s, m, args, below, meth, c, A, Q, kc, ks⟩ := κ
  intro O H locs ls hP hS hl
  refine va_mmin O.1 O.2.1 (O.2.2.1.trans hl.1.symm) O.2.2.2.1 (O.2.2.2.2.1 _ hl2) (O.2.2.2.2.1 _ sm_min) (O.2.2.2.2.1 _ in_java_lang_Math) (O.2.2.2.2.1 _ cd_min) hfr (by rw [mc_sum]; exact hlo) (Nat.le_refl _) (Nat.le_refl _) hd ?_
  have h := k O H locs ls hP hS hl
  by_cases q : b < a
  · rw [if_pos q] at h
    rw [if_pos ((i32_lt hb ha).mpr q)]
    exact h
  · rw [if_neg q] at h
    rw [if_neg (fun w => q ((i32_lt hb ha).mp w))]
    exact h
