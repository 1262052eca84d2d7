/-! THE CONSTRUCTORS -/
abbrev tyz (cI cJ cZ : ClassId) : List (ClassId × FieldType) := [(cI, .int), (cJ, .long), (cZ, .boolean)]
theorem va_one (a : Nat) (e : va_E) (sz : Nat) : va_D (va_A [(a, e)] sz) [(a, e)] := by
  refine ⟨fun i j p q hi hj _ => ?_, fun k q hk => ?_⟩
  · have h1 : i < 1 := (List.getElem?_eq_some_iff.mp hi).1
    have h2 : j < 1 := (List.getElem?_eq_some_iff.mp hj).1
    omega
  · exact Or.inl ⟨k, q.2, hk⟩
theorem one_cls {s : State} {D : va_G} {tys : List (ClassId × FieldType)} {k j : Nat} {cA c2 : ClassId} {ty : FieldType} {tys2 : List (ClassId × FieldType)} (h1 : va_K D vwCl tys s) (h2 : va_K D vwCl tys2 s) (e1 : tys[k]? = some (c2, ty)) (e2 : tys2[j]? = some (cA, ty)) (hn : ∀ C, ty ≠ .object C) : cA = c2 := by
  have a1 := (h1.2 k _ e1).2
  have a2 := (h2.2 j _ e2).2
  cases ty with
  | object C => exact absurd rfl (hn C)
  | _ =>
    have b1 : s.vm.findClass _ = some c2 := a1
    have b2 : s.vm.findClass _ = some cA := a2
    exact Option.some.inj (b2.symm.trans b1)
abbrev wX0 (cI cJ cZ : ClassId) (h0 : Nat) (a : Nat → Nat) : va_W := [(h0, .inr (0, [.int (Int32.ofInt 0), .ref (a 1)])), (a 1, .inl (cI, 16, .inl (fun _ => Int32.ofInt 0)))]
set_option maxHeartbeats 4000000 in
set_option maxRecDepth 100000 in
theorem ctor_X0 (l : Launch) {D : va_G} {cI cJ cZ : ClassId} (h0 sz : Nat) : Met l yX0_init (.code yX0_init cX0_init 1 none :: TB) ({ frames := 1, cells := 1, slots := 16, locals := 26 }) (va_Pc [.ref h0] (fun U => U.heap.size = sz ∧ va_P D vwCl [(h0, .inr (0, [.int (Int32.ofInt 0), .null]))] U.heap ∧ va_K D vwCl (tyz cI cJ cZ) U)) (va_Qv (fun _ : Nat → Nat => True) (fun a t => va_P D vwCl (wX0 cI cJ cZ h0 a) t.heap ∧ va_D (va_A [(h0, .inr (0, [.int (Int32.ofInt 0), .null]))] sz) (wX0 cI cJ cZ h0 a)) (va_A [(h0, .inr (0, [.int (Int32.ofInt 0), .null]))] sz)) 1 16 (va_A [(h0, .inr (0, [.int (Int32.ofInt 0), .null]))] sz) := by
  refine Met.ofW (cc := cX0_init) (maxL := 1) (ret := none) (by decide) rfl ?_
  intro p e s m args below meth c s₁ B hml hv
  obtain ⟨rfl, hsz, hP, hK⟩ := hv
  have hx := B.exec
  have hb := B.bytes
  have hr := B.returns
  have hts := atoms_spec (ws := .code yX0_init cX0_init 1 none :: TB) B.pre
  have hTB : ∀ w ∈ TB, w.before _ s = true := fun w hw => hts w (List.mem_cons_of_mem _ hw)
  have hown : s.vm.findClass RX0 = some m.cls := findClass_of_methodNamed B.named
  have hlocks := B.notSynchronized
  have hin : meth.name = "<init>" := (name_of_methodNamed B.named B.method).1
  subst hsz
  have hD := va_one h0 (.inr (0, [.int (Int32.ofInt 0), .null])) s.heap.size
  generalize hAe : va_A [(h0, .inr (0, [.int (Int32.ofInt 0), .null]))] s.heap.size = A at hD ⊢
  have hA : ∀ q : Nat, s.heap.size ≤ q → A q := fun q h => by rw [← hAe]; exact Or.inr h
  have hS : va_S A s.heap s.heap [] := va_S.rf
  have hl := lv_entry ([.ref h0]) (n := 1) (Nat.le_of_ble_eq_true rfl)
  rw [lg_entry_eq]
  generalize (lg_sl ([.ref h0]) ++ List.replicate (1 - (lg_sl ([.ref h0])).length) Slot.unset).toArray = ls at hl ⊢
  have hl : lv_has ls 1 [(0, .ref h0)] := hl
  refine lv_aload_n hx hb dX0_init_0 rfl (lv_at hl 0 rfl) ?_
  refine W.objInit hx hb hown (hTB _ ml_RX0_3) (hTB _ im_obj) (hTB _ cd_obj) rfl (by rw [hml]; exact hl.1) rfl dX0_init_1 (Nat.le_of_ble_eq_true rfl) (Nat.le_of_ble_eq_true rfl) ?_
  refine W.eq (g2 := F0 m 4 ls []) rfl ?_
  refine lv_aload_n hx hb dX0_init_4 rfl (lv_at hl 0 rfl) ?_
  refine lv_bipush (v := 16) hx hb dX0_init_5 (by decide) ?_
  refine va_newa (atype := .int) (ty := .int) (N' := 16) (a0 := (16, .inl (fun _ => Int32.ofInt 0))) hx hb (hTB _ ac_int) rfl hK hP hD hS hA (fun _ => rfl) (by decide) (by decide) (by decide) (Nat.le_of_ble_eq_true rfl) (Nat.le_of_ble_eq_true rfl) dX0_init_7 (fun q1 cA H hK1 hP hD hS => ?_)
  have eC : cA = cI := one_cls hK hK1 (k := 0) (j := 3) rfl rfl (fun _ h => by cases h)
  rw [eC] at hP hD
  clear hK1 eC cA
  have hP : va_P D vwCl [(h0, .inr (0, [.int (Int32.ofInt 0), .null])), (q1, .inl (cI, 16, .inl (fun _ => Int32.ofInt 0)))] H := hP
  have hD : va_D A [(h0, .inr (0, [.int (Int32.ofInt 0), .null])), (q1, .inl (cI, 16, .inl (fun _ => Int32.ofInt 0)))] := hD
  refine va_putF (D := D) (ci := 0) (v := .ref q1) (C := RX0) (T := TX0) (N := 2) hx hb hTB lay_X0 tyX0 tyX0_ok nmX0 hown hK hP hD hS 0 rfl rfl 1 (by decide) (hTB _ fl_RX0_9) (fun _ h9 => h9) rfl hin rfl (tyX0_ok 1 (by decide)) rfl rfl (Nat.le_of_ble_eq_true rfl) dX0_init_9 (fun H locs hP hD hS => ?_)
  have hP : va_P D vwCl [(h0, .inr (0, [.int (Int32.ofInt 0), .ref q1])), (q1, .inl (cI, 16, .inl (fun _ => Int32.ofInt 0)))] H := hP
  have hD : va_D A [(h0, .inr (0, [.int (Int32.ofInt 0), .ref q1])), (q1, .inl (cI, 16, .inl (fun _ => Int32.ofInt 0)))] := hD
  refine W.widen (k := 1) (n := 16) (Nat.le_of_ble_eq_true rfl) (Nat.le_of_ble_eq_true rfl) ?_
  exact W.vret hx hb hr (fun t ht hW => ⟨⟨(fun i => ([h0, q1] : List Nat).getD i 0), rfl, trivial, by rw [ht]; exact hP, hD⟩, hS.F ht⟩) hS.2.2 dX0_init_12
abbrev wX1 (cI cJ cZ : ClassId) (h0 : Nat) (a : Nat → Nat) : va_W := [(h0, .inr (1, [.int (Int32.ofInt 0), .ref (a 1), .ref (a 2), .ref (a 3), .ref (a 4), .ref (a 5)])), (a 1, .inl (cI, 8, .inl (fun _ => Int32.ofInt 0))), (a 2, .inl (cI, 8, .inl (fun _ => Int32.ofInt 0))), (a 3, .inl (cI, 8, .inl (fun _ => Int32.ofInt 0))), (a 4, .inl (cI, 2000, .inl (fun _ => Int32.ofInt 0))), (a 5, .inl (cI, 2000, .inl (fun _ => Int32.ofInt 0)))]
set_option maxHeartbeats 4000000 in
set_option maxRecDepth 100000 in
theorem ctor_X1 (l : Launch) {D : va_G} {cI cJ cZ : ClassId} (h0 sz : Nat) : Met l yX1_init (.code yX1_init cX1_init 1 none :: TB) ({ frames := 1, cells := 5, slots := 4024, locals := 26 }) (va_Pc [.ref h0] (fun U => U.heap.size = sz ∧ va_P D vwCl [(h0, .inr (1, [.int (Int32.ofInt 0), .null, .null, .null, .null, .null]))] U.heap ∧ va_K D vwCl (tyz cI cJ cZ) U)) (va_Qv (fun _ : Nat → Nat => True) (fun a t => va_P D vwCl (wX1 cI cJ cZ h0 a) t.heap ∧ va_D (va_A [(h0, .inr (1, [.int (Int32.ofInt 0), .null, .null, .null, .null, .null]))] sz) (wX1 cI cJ cZ h0 a)) (va_A [(h0, .inr (1, [.int (Int32.ofInt 0), .null, .null, .null, .null, .null]))] sz)) 5 4024 (va_A [(h0, .inr (1, [.int (Int32.ofInt 0), .null, .null, .null, .null, .null]))] sz) := by
  refine Met.ofW (cc := cX1_init) (maxL := 1) (ret := none) (by decide) rfl ?_
  intro p e s m args below meth c s₁ B hml hv
  obtain ⟨rfl, hsz, hP, hK⟩ := hv
  have hx := B.exec
  have hb := B.bytes
  have hr := B.returns
  have hts := atoms_spec (ws := .code yX1_init cX1_init 1 none :: TB) B.pre
  have hTB : ∀ w ∈ TB, w.before _ s = true := fun w hw => hts w (List.mem_cons_of_mem _ hw)
  have hown : s.vm.findClass RX1 = some m.cls := findClass_of_methodNamed B.named
  have hlocks := B.notSynchronized
  have hin : meth.name = "<init>" := (name_of_methodNamed B.named B.method).1
  subst hsz
  have hD := va_one h0 (.inr (1, [.int (Int32.ofInt 0), .null, .null, .null, .null, .null])) s.heap.size
  generalize hAe : va_A [(h0, .inr (1, [.int (Int32.ofInt 0), .null, .null, .null, .null, .null]))] s.heap.size = A at hD ⊢
  have hA : ∀ q : Nat, s.heap.size ≤ q → A q := fun q h => by rw [← hAe]; exact Or.inr h
  have hS : va_S A s.heap s.heap [] := va_S.rf
  have hl := lv_entry ([.ref h0]) (n := 1) (Nat.le_of_ble_eq_true rfl)
  rw [lg_entry_eq]
  generalize (lg_sl ([.ref h0]) ++ List.replicate (1 - (lg_sl ([.ref h0])).length) Slot.unset).toArray = ls at hl ⊢
  have hl : lv_has ls 1 [(0, .ref h0)] := hl
  refine lv_aload_n hx hb dX1_init_0 rfl (lv_at hl 0 rfl) ?_
  refine W.objInit hx hb hown (hTB _ ml_RX1_3) (hTB _ im_obj) (hTB _ cd_obj) rfl (by rw [hml]; exact hl.1) rfl dX1_init_1 (Nat.le_of_ble_eq_true rfl) (Nat.le_of_ble_eq_true rfl) ?_
  refine W.eq (g2 := F0 m 4 ls []) rfl ?_
  refine lv_aload_n hx hb dX1_init_4 rfl (lv_at hl 0 rfl) ?_
  refine lv_bipush (v := 8) hx hb dX1_init_5 (by decide) ?_
  refine va_newa (atype := .int) (ty := .int) (N' := 8) (a0 := (8, .inl (fun _ => Int32.ofInt 0))) hx hb (hTB _ ac_int) rfl hK hP hD hS hA (fun _ => rfl) (by decide) (by decide) (by decide) (Nat.le_of_ble_eq_true rfl) (Nat.le_of_ble_eq_true rfl) dX1_init_7 (fun q1 cA H hK1 hP hD hS => ?_)
  have eC : cA = cI := one_cls hK hK1 (k := 0) (j := 3) rfl rfl (fun _ h => by cases h)
  rw [eC] at hP hD
  clear hK1 eC cA
  have hP : va_P D vwCl [(h0, .inr (1, [.int (Int32.ofInt 0), .null, .null, .null, .null, .null])), (q1, .inl (cI, 8, .inl (fun _ => Int32.ofInt 0)))] H := hP
  have hD : va_D A [(h0, .inr (1, [.int (Int32.ofInt 0), .null, .null, .null, .null, .null])), (q1, .inl (cI, 8, .inl (fun _ => Int32.ofInt 0)))] := hD
  refine va_putF (D := D) (ci := 1) (v := .ref q1) (C := RX1) (T := TX1) (N := 6) hx hb hTB lay_X1 tyX1 tyX1_ok nmX1 hown hK hP hD hS 0 rfl rfl 1 (by decide) (hTB _ fl_RX1_9) (fun _ h9 => h9) rfl hin rfl (tyX1_ok 1 (by decide)) rfl rfl (Nat.le_of_ble_eq_true rfl) dX1_init_9 (fun H locs hP hD hS => ?_)
  have hP : va_P D vwCl [(h0, .inr (1, [.int (Int32.ofInt 0), .ref q1, .null, .null, .null, .null])), (q1, .inl (cI, 8, .inl (fun _ => Int32.ofInt 0)))] H := hP
  have hD : va_D A [(h0, .inr (1, [.int (Int32.ofInt 0), .ref q1, .null, .null, .null, .null])), (q1, .inl (cI, 8, .inl (fun _ => Int32.ofInt 0)))] := hD
  refine lv_aload_n hx hb dX1_init_12 rfl (lv_at hl 0 rfl) ?_
  refine lv_bipush (v := 8) hx hb dX1_init_13 (by decide) ?_
  refine va_newa (atype := .int) (ty := .int) (N' := 8) (a0 := (8, .inl (fun _ => Int32.ofInt 0))) hx hb (hTB _ ac_int) rfl hK hP hD hS hA (fun _ => rfl) (by decide) (by decide) (by decide) (Nat.le_of_ble_eq_true rfl) (Nat.le_of_ble_eq_true rfl) dX1_init_15 (fun q2 cA H hK1 hP hD hS => ?_)
  have eC : cA = cI := one_cls hK hK1 (k := 0) (j := 3) rfl rfl (fun _ h => by cases h)
  rw [eC] at hP hD
  clear hK1 eC cA
  have hP : va_P D vwCl [(h0, .inr (1, [.int (Int32.ofInt 0), .ref q1, .null, .null, .null, .null])), (q1, .inl (cI, 8, .inl (fun _ => Int32.ofInt 0))), (q2, .inl (cI, 8, .inl (fun _ => Int32.ofInt 0)))] H := hP
  have hD : va_D A [(h0, .inr (1, [.int (Int32.ofInt 0), .ref q1, .null, .null, .null, .null])), (q1, .inl (cI, 8, .inl (fun _ => Int32.ofInt 0))), (q2, .inl (cI, 8, .inl (fun _ => Int32.ofInt 0)))] := hD
  refine va_putF (D := D) (ci := 1) (v := .ref q2) (C := RX1) (T := TX1) (N := 6) hx hb hTB lay_X1 tyX1 tyX1_ok nmX1 hown hK hP hD hS 0 rfl rfl 2 (by decide) (hTB _ fl_RX1_15) (fun _ h9 => h9) rfl hin rfl (tyX1_ok 2 (by decide)) rfl rfl (Nat.le_of_ble_eq_true rfl) dX1_init_17 (fun H locs hP hD hS => ?_)
  have hP : va_P D vwCl [(h0, .inr (1, [.int (Int32.ofInt 0), .ref q1, .ref q2, .null, .null, .null])), (q1, .inl (cI, 8, .inl (fun _ => Int32.ofInt 0))), (q2, .inl (cI, 8, .inl (fun _ => Int32.ofInt 0)))] H := hP
  have hD : va_D A [(h0, .inr (1, [.int (Int32.ofInt 0), .ref q1, .ref q2, .null, .null, .null])), (q1, .inl (cI, 8, .inl (fun _ => Int32.ofInt 0))), (q2, .inl (cI, 8, .inl (fun _ => Int32.ofInt 0)))] := hD
  refine lv_aload_n hx hb dX1_init_20 rfl (lv_at hl 0 rfl) ?_
  refine lv_bipush (v := 8) hx hb dX1_init_21 (by decide) ?_
  refine va_newa (atype := .int) (ty := .int) (N' := 8) (a0 := (8, .inl (fun _ => Int32.ofInt 0))) hx hb (hTB _ ac_int) rfl hK hP hD hS hA (fun _ => rfl) (by decide) (by decide) (by decide) (Nat.le_of_ble_eq_true rfl) (Nat.le_of_ble_eq_true rfl) dX1_init_23 (fun q3 cA H hK1 hP hD hS => ?_)
  have eC : cA = cI := one_cls hK hK1 (k := 0) (j := 3) rfl rfl (fun _ h => by cases h)
  rw [eC] at hP hD
  clear hK1 eC cA
  have hP : va_P D vwCl [(h0, .inr (1, [.int (Int32.ofInt 0), .ref q1, .ref q2, .null, .null, .null])), (q1, .inl (cI, 8, .inl (fun _ => Int32.ofInt 0))), (q2, .inl (cI, 8, .inl (fun _ => Int32.ofInt 0))), (q3, .inl (cI, 8, .inl (fun _ => Int32.ofInt 0)))] H := hP
  have hD : va_D A [(h0, .inr (1, [.int (Int32.ofInt 0), .ref q1, .ref q2, .null, .null, .null])), (q1, .inl (cI, 8, .inl (fun _ => Int32.ofInt 0))), (q2, .inl (cI, 8, .inl (fun _ => Int32.ofInt 0))), (q3, .inl (cI, 8, .inl (fun _ => Int32.ofInt 0)))] := hD
  refine va_putF (D := D) (ci := 1) (v := .ref q3) (C := RX1) (T := TX1) (N := 6) hx hb hTB lay_X1 tyX1 tyX1_ok nmX1 hown hK hP hD hS 0 rfl rfl 3 (by decide) (hTB _ fl_RX1_18) (fun _ h9 => h9) rfl hin rfl (tyX1_ok 3 (by decide)) rfl rfl (Nat.le_of_ble_eq_true rfl) dX1_init_25 (fun H locs hP hD hS => ?_)
  have hP : va_P D vwCl [(h0, .inr (1, [.int (Int32.ofInt 0), .ref q1, .ref q2, .ref q3, .null, .null])), (q1, .inl (cI, 8, .inl (fun _ => Int32.ofInt 0))), (q2, .inl (cI, 8, .inl (fun _ => Int32.ofInt 0))), (q3, .inl (cI, 8, .inl (fun _ => Int32.ofInt 0)))] H := hP
  have hD : va_D A [(h0, .inr (1, [.int (Int32.ofInt 0), .ref q1, .ref q2, .ref q3, .null, .null])), (q1, .inl (cI, 8, .inl (fun _ => Int32.ofInt 0))), (q2, .inl (cI, 8, .inl (fun _ => Int32.ofInt 0))), (q3, .inl (cI, 8, .inl (fun _ => Int32.ofInt 0)))] := hD
  refine lv_aload_n hx hb dX1_init_28 rfl (lv_at hl 0 rfl) ?_
  refine lv_sipush (v := 2000) hx hb dX1_init_29 (by decide) ?_
  refine va_newa (atype := .int) (ty := .int) (N' := 2000) (a0 := (2000, .inl (fun _ => Int32.ofInt 0))) hx hb (hTB _ ac_int) rfl hK hP hD hS hA (fun _ => rfl) (by decide) (by decide) (by decide) (Nat.le_of_ble_eq_true rfl) (Nat.le_of_ble_eq_true rfl) dX1_init_32 (fun q4 cA H hK1 hP hD hS => ?_)
  have eC : cA = cI := one_cls hK hK1 (k := 0) (j := 3) rfl rfl (fun _ h => by cases h)
  rw [eC] at hP hD
  clear hK1 eC cA
  have hP : va_P D vwCl [(h0, .inr (1, [.int (Int32.ofInt 0), .ref q1, .ref q2, .ref q3, .null, .null])), (q1, .inl (cI, 8, .inl (fun _ => Int32.ofInt 0))), (q2, .inl (cI, 8, .inl (fun _ => Int32.ofInt 0))), (q3, .inl (cI, 8, .inl (fun _ => Int32.ofInt 0))), (q4, .inl (cI, 2000, .inl (fun _ => Int32.ofInt 0)))] H := hP
  have hD : va_D A [(h0, .inr (1, [.int (Int32.ofInt 0), .ref q1, .ref q2, .ref q3, .null, .null])), (q1, .inl (cI, 8, .inl (fun _ => Int32.ofInt 0))), (q2, .inl (cI, 8, .inl (fun _ => Int32.ofInt 0))), (q3, .inl (cI, 8, .inl (fun _ => Int32.ofInt 0))), (q4, .inl (cI, 2000, .inl (fun _ => Int32.ofInt 0)))] := hD
  refine va_putF (D := D) (ci := 1) (v := .ref q4) (C := RX1) (T := TX1) (N := 6) hx hb hTB lay_X1 tyX1 tyX1_ok nmX1 hown hK hP hD hS 0 rfl rfl 4 (by decide) (hTB _ fl_RX1_21) (fun _ h9 => h9) rfl hin rfl (tyX1_ok 4 (by decide)) rfl rfl (Nat.le_of_ble_eq_true rfl) dX1_init_34 (fun H locs hP hD hS => ?_)
  have hP : va_P D vwCl [(h0, .inr (1, [.int (Int32.ofInt 0), .ref q1, .ref q2, .ref q3, .ref q4, .null])), (q1, .inl (cI, 8, .inl (fun _ => Int32.ofInt 0))), (q2, .inl (cI, 8, .inl (fun _ => Int32.ofInt 0))), (q3, .inl (cI, 8, .inl (fun _ => Int32.ofInt 0))), (q4, .inl (cI, 2000, .inl (fun _ => Int32.ofInt 0)))] H := hP
  have hD : va_D A [(h0, .inr (1, [.int (Int32.ofInt 0), .ref q1, .ref q2, .ref q3, .ref q4, .null])), (q1, .inl (cI, 8, .inl (fun _ => Int32.ofInt 0))), (q2, .inl (cI, 8, .inl (fun _ => Int32.ofInt 0))), (q3, .inl (cI, 8, .inl (fun _ => Int32.ofInt 0))), (q4, .inl (cI, 2000, .inl (fun _ => Int32.ofInt 0)))] := hD
  refine lv_aload_n hx hb dX1_init_37 rfl (lv_at hl 0 rfl) ?_
  refine lv_sipush (v := 2000) hx hb dX1_init_38 (by decide) ?_
  refine va_newa (atype := .int) (ty := .int) (N' := 2000) (a0 := (2000, .inl (fun _ => Int32.ofInt 0))) hx hb (hTB _ ac_int) rfl hK hP hD hS hA (fun _ => rfl) (by decide) (by decide) (by decide) (Nat.le_of_ble_eq_true rfl) (Nat.le_of_ble_eq_true rfl) dX1_init_41 (fun q5 cA H hK1 hP hD hS => ?_)
  have eC : cA = cI := one_cls hK hK1 (k := 0) (j := 3) rfl rfl (fun _ h => by cases h)
  rw [eC] at hP hD
  clear hK1 eC cA
  have hP : va_P D vwCl [(h0, .inr (1, [.int (Int32.ofInt 0), .ref q1, .ref q2, .ref q3, .ref q4, .null])), (q1, .inl (cI, 8, .inl (fun _ => Int32.ofInt 0))), (q2, .inl (cI, 8, .inl (fun _ => Int32.ofInt 0))), (q3, .inl (cI, 8, .inl (fun _ => Int32.ofInt 0))), (q4, .inl (cI, 2000, .inl (fun _ => Int32.ofInt 0))), (q5, .inl (cI, 2000, .inl (fun _ => Int32.ofInt 0)))] H := hP
  have hD : va_D A [(h0, .inr (1, [.int (Int32.ofInt 0), .ref q1, .ref q2, .ref q3, .ref q4, .null])), (q1, .inl (cI, 8, .inl (fun _ => Int32.ofInt 0))), (q2, .inl (cI, 8, .inl (fun _ => Int32.ofInt 0))), (q3, .inl (cI, 8, .inl (fun _ => Int32.ofInt 0))), (q4, .inl (cI, 2000, .inl (fun _ => Int32.ofInt 0))), (q5, .inl (cI, 2000, .inl (fun _ => Int32.ofInt 0)))] := hD
  refine va_putF (D := D) (ci := 1) (v := .ref q5) (C := RX1) (T := TX1) (N := 6) hx hb hTB lay_X1 tyX1 tyX1_ok nmX1 hown hK hP hD hS 0 rfl rfl 5 (by decide) (hTB _ fl_RX1_24) (fun _ h9 => h9) rfl hin rfl (tyX1_ok 5 (by decide)) rfl rfl (Nat.le_of_ble_eq_true rfl) dX1_init_43 (fun H locs hP hD hS => ?_)
  have hP : va_P D vwCl [(h0, .inr (1, [.int (Int32.ofInt 0), .ref q1, .ref q2, .ref q3, .ref q4, .ref q5])), (q1, .inl (cI, 8, .inl (fun _ => Int32.ofInt 0))), (q2, .inl (cI, 8, .inl (fun _ => Int32.ofInt 0))), (q3, .inl (cI, 8, .inl (fun _ => Int32.ofInt 0))), (q4, .inl (cI, 2000, .inl (fun _ => Int32.ofInt 0))), (q5, .inl (cI, 2000, .inl (fun _ => Int32.ofInt 0)))] H := hP
  have hD : va_D A [(h0, .inr (1, [.int (Int32.ofInt 0), .ref q1, .ref q2, .ref q3, .ref q4, .ref q5])), (q1, .inl (cI, 8, .inl (fun _ => Int32.ofInt 0))), (q2, .inl (cI, 8, .inl (fun _ => Int32.ofInt 0))), (q3, .inl (cI, 8, .inl (fun _ => Int32.ofInt 0))), (q4, .inl (cI, 2000, .inl (fun _ => Int32.ofInt 0))), (q5, .inl (cI, 2000, .inl (fun _ => Int32.ofInt 0)))] := hD
  refine W.widen (k := 5) (n := 4024) (Nat.le_of_ble_eq_true rfl) (Nat.le_of_ble_eq_true rfl) ?_
  exact W.vret hx hb hr (fun t ht hW => ⟨⟨(fun i => ([h0, q1, q2, q3, q4, q5] : List Nat).getD i 0), rfl, trivial, by rw [ht]; exact hP, hD⟩, hS.F ht⟩) hS.2.2 dX1_init_46
abbrev wX2 (cI cJ cZ : ClassId) (h0 : Nat) (a : Nat → Nat) : va_W := [(h0, .inr (2, [.int (Int32.ofInt 0), .int (Int32.ofInt 0), .ref (a 1), .ref (a 2), .ref (a 3), .ref (a 4)])), (a 1, .inl (cZ, 720, .inl (fun _ => Int32.ofInt 0))), (a 2, .inl (cI, 720, .inl (fun _ => Int32.ofInt 0))), (a 3, .inl (cI, 6, .inl (fun _ => Int32.ofInt 0))), (a 4, .inl (cI, 6, .inl (fun _ => Int32.ofInt 0)))]
set_option maxHeartbeats 4000000 in
set_option maxRecDepth 100000 in
theorem ctor_X2 (l : Launch) {D : va_G} {cI cJ cZ : ClassId} (h0 sz : Nat) : Met l yX2_init (.code yX2_init cX2_init 1 none :: TB) ({ frames := 1, cells := 4, slots := 1452, locals := 26 }) (va_Pc [.ref h0] (fun U => U.heap.size = sz ∧ va_P D vwCl [(h0, .inr (2, [.int (Int32.ofInt 0), .int (Int32.ofInt 0), .null, .null, .null, .null]))] U.heap ∧ va_K D vwCl (tyz cI cJ cZ) U)) (va_Qv (fun _ : Nat → Nat => True) (fun a t => va_P D vwCl (wX2 cI cJ cZ h0 a) t.heap ∧ va_D (va_A [(h0, .inr (2, [.int (Int32.ofInt 0), .int (Int32.ofInt 0), .null, .null, .null, .null]))] sz) (wX2 cI cJ cZ h0 a)) (va_A [(h0, .inr (2, [.int (Int32.ofInt 0), .int (Int32.ofInt 0), .null, .null, .null, .null]))] sz)) 4 1452 (va_A [(h0, .inr (2, [.int (Int32.ofInt 0), .int (Int32.ofInt 0), .null, .null, .null, .null]))] sz) := by
  refine Met.ofW (cc := cX2_init) (maxL := 1) (ret := none) (by decide) rfl ?_
  intro p e s m args below meth c s₁ B hml hv
  obtain ⟨rfl, hsz, hP, hK⟩ := hv
  have hx := B.exec
  have hb := B.bytes
  have hr := B.returns
  have hts := atoms_spec (ws := .code yX2_init cX2_init 1 none :: TB) B.pre
  have hTB : ∀ w ∈ TB, w.before _ s = true := fun w hw => hts w (List.mem_cons_of_mem _ hw)
  have hown : s.vm.findClass RX2 = some m.cls := findClass_of_methodNamed B.named
  have hlocks := B.notSynchronized
  have hin : meth.name = "<init>" := (name_of_methodNamed B.named B.method).1
  subst hsz
  have hD := va_one h0 (.inr (2, [.int (Int32.ofInt 0), .int (Int32.ofInt 0), .null, .null, .null, .null])) s.heap.size
  generalize hAe : va_A [(h0, .inr (2, [.int (Int32.ofInt 0), .int (Int32.ofInt 0), .null, .null, .null, .null]))] s.heap.size = A at hD ⊢
  have hA : ∀ q : Nat, s.heap.size ≤ q → A q := fun q h => by rw [← hAe]; exact Or.inr h
  have hS : va_S A s.heap s.heap [] := va_S.rf
  have hl := lv_entry ([.ref h0]) (n := 1) (Nat.le_of_ble_eq_true rfl)
  rw [lg_entry_eq]
  generalize (lg_sl ([.ref h0]) ++ List.replicate (1 - (lg_sl ([.ref h0])).length) Slot.unset).toArray = ls at hl ⊢
  have hl : lv_has ls 1 [(0, .ref h0)] := hl
  refine lv_aload_n hx hb dX2_init_0 rfl (lv_at hl 0 rfl) ?_
  refine W.objInit hx hb hown (hTB _ ml_RX2_3) (hTB _ im_obj) (hTB _ cd_obj) rfl (by rw [hml]; exact hl.1) rfl dX2_init_1 (Nat.le_of_ble_eq_true rfl) (Nat.le_of_ble_eq_true rfl) ?_
  refine W.eq (g2 := F0 m 4 ls []) rfl ?_
  refine lv_aload_n hx hb dX2_init_4 rfl (lv_at hl 0 rfl) ?_
  refine lv_sipush (v := 720) hx hb dX2_init_5 (by decide) ?_
  refine va_newa (atype := .boolean) (ty := .boolean) (N' := 720) (a0 := (720, .inl (fun _ => Int32.ofInt 0))) hx hb (hTB _ ac_boolean) rfl hK hP hD hS hA (fun _ => rfl) (by decide) (by decide) (by decide) (Nat.le_of_ble_eq_true rfl) (Nat.le_of_ble_eq_true rfl) dX2_init_8 (fun q1 cA H hK1 hP hD hS => ?_)
  have eC : cA = cZ := one_cls hK hK1 (k := 2) (j := 3) rfl rfl (fun _ h => by cases h)
  rw [eC] at hP hD
  clear hK1 eC cA
  have hP : va_P D vwCl [(h0, .inr (2, [.int (Int32.ofInt 0), .int (Int32.ofInt 0), .null, .null, .null, .null])), (q1, .inl (cZ, 720, .inl (fun _ => Int32.ofInt 0)))] H := hP
  have hD : va_D A [(h0, .inr (2, [.int (Int32.ofInt 0), .int (Int32.ofInt 0), .null, .null, .null, .null])), (q1, .inl (cZ, 720, .inl (fun _ => Int32.ofInt 0)))] := hD
  refine va_putF (D := D) (ci := 2) (v := .ref q1) (C := RX2) (T := TX2) (N := 6) hx hb hTB lay_X2 tyX2 tyX2_ok nmX2 hown hK hP hD hS 0 rfl rfl 2 (by decide) (hTB _ fl_RX2_9) (fun _ h9 => h9) rfl hin rfl (tyX2_ok 2 (by decide)) rfl rfl (Nat.le_of_ble_eq_true rfl) dX2_init_10 (fun H locs hP hD hS => ?_)
  have hP : va_P D vwCl [(h0, .inr (2, [.int (Int32.ofInt 0), .int (Int32.ofInt 0), .ref q1, .null, .null, .null])), (q1, .inl (cZ, 720, .inl (fun _ => Int32.ofInt 0)))] H := hP
  have hD : va_D A [(h0, .inr (2, [.int (Int32.ofInt 0), .int (Int32.ofInt 0), .ref q1, .null, .null, .null])), (q1, .inl (cZ, 720, .inl (fun _ => Int32.ofInt 0)))] := hD
  refine lv_aload_n hx hb dX2_init_13 rfl (lv_at hl 0 rfl) ?_
  refine lv_sipush (v := 720) hx hb dX2_init_14 (by decide) ?_
  refine va_newa (atype := .int) (ty := .int) (N' := 720) (a0 := (720, .inl (fun _ => Int32.ofInt 0))) hx hb (hTB _ ac_int) rfl hK hP hD hS hA (fun _ => rfl) (by decide) (by decide) (by decide) (Nat.le_of_ble_eq_true rfl) (Nat.le_of_ble_eq_true rfl) dX2_init_17 (fun q2 cA H hK1 hP hD hS => ?_)
  have eC : cA = cI := one_cls hK hK1 (k := 0) (j := 3) rfl rfl (fun _ h => by cases h)
  rw [eC] at hP hD
  clear hK1 eC cA
  have hP : va_P D vwCl [(h0, .inr (2, [.int (Int32.ofInt 0), .int (Int32.ofInt 0), .ref q1, .null, .null, .null])), (q1, .inl (cZ, 720, .inl (fun _ => Int32.ofInt 0))), (q2, .inl (cI, 720, .inl (fun _ => Int32.ofInt 0)))] H := hP
  have hD : va_D A [(h0, .inr (2, [.int (Int32.ofInt 0), .int (Int32.ofInt 0), .ref q1, .null, .null, .null])), (q1, .inl (cZ, 720, .inl (fun _ => Int32.ofInt 0))), (q2, .inl (cI, 720, .inl (fun _ => Int32.ofInt 0)))] := hD
  refine va_putF (D := D) (ci := 2) (v := .ref q2) (C := RX2) (T := TX2) (N := 6) hx hb hTB lay_X2 tyX2 tyX2_ok nmX2 hown hK hP hD hS 0 rfl rfl 3 (by decide) (hTB _ fl_RX2_15) (fun _ h9 => h9) rfl hin rfl (tyX2_ok 3 (by decide)) rfl rfl (Nat.le_of_ble_eq_true rfl) dX2_init_19 (fun H locs hP hD hS => ?_)
  have hP : va_P D vwCl [(h0, .inr (2, [.int (Int32.ofInt 0), .int (Int32.ofInt 0), .ref q1, .ref q2, .null, .null])), (q1, .inl (cZ, 720, .inl (fun _ => Int32.ofInt 0))), (q2, .inl (cI, 720, .inl (fun _ => Int32.ofInt 0)))] H := hP
  have hD : va_D A [(h0, .inr (2, [.int (Int32.ofInt 0), .int (Int32.ofInt 0), .ref q1, .ref q2, .null, .null])), (q1, .inl (cZ, 720, .inl (fun _ => Int32.ofInt 0))), (q2, .inl (cI, 720, .inl (fun _ => Int32.ofInt 0)))] := hD
  refine lv_aload_n hx hb dX2_init_22 rfl (lv_at hl 0 rfl) ?_
  refine lv_bipush (v := 6) hx hb dX2_init_23 (by decide) ?_
  refine va_newa (atype := .int) (ty := .int) (N' := 6) (a0 := (6, .inl (fun _ => Int32.ofInt 0))) hx hb (hTB _ ac_int) rfl hK hP hD hS hA (fun _ => rfl) (by decide) (by decide) (by decide) (Nat.le_of_ble_eq_true rfl) (Nat.le_of_ble_eq_true rfl) dX2_init_25 (fun q3 cA H hK1 hP hD hS => ?_)
  have eC : cA = cI := one_cls hK hK1 (k := 0) (j := 3) rfl rfl (fun _ h => by cases h)
  rw [eC] at hP hD
  clear hK1 eC cA
  have hP : va_P D vwCl [(h0, .inr (2, [.int (Int32.ofInt 0), .int (Int32.ofInt 0), .ref q1, .ref q2, .null, .null])), (q1, .inl (cZ, 720, .inl (fun _ => Int32.ofInt 0))), (q2, .inl (cI, 720, .inl (fun _ => Int32.ofInt 0))), (q3, .inl (cI, 6, .inl (fun _ => Int32.ofInt 0)))] H := hP
  have hD : va_D A [(h0, .inr (2, [.int (Int32.ofInt 0), .int (Int32.ofInt 0), .ref q1, .ref q2, .null, .null])), (q1, .inl (cZ, 720, .inl (fun _ => Int32.ofInt 0))), (q2, .inl (cI, 720, .inl (fun _ => Int32.ofInt 0))), (q3, .inl (cI, 6, .inl (fun _ => Int32.ofInt 0)))] := hD
  refine va_putF (D := D) (ci := 2) (v := .ref q3) (C := RX2) (T := TX2) (N := 6) hx hb hTB lay_X2 tyX2 tyX2_ok nmX2 hown hK hP hD hS 0 rfl rfl 4 (by decide) (hTB _ fl_RX2_19) (fun _ h9 => h9) rfl hin rfl (tyX2_ok 4 (by decide)) rfl rfl (Nat.le_of_ble_eq_true rfl) dX2_init_27 (fun H locs hP hD hS => ?_)
  have hP : va_P D vwCl [(h0, .inr (2, [.int (Int32.ofInt 0), .int (Int32.ofInt 0), .ref q1, .ref q2, .ref q3, .null])), (q1, .inl (cZ, 720, .inl (fun _ => Int32.ofInt 0))), (q2, .inl (cI, 720, .inl (fun _ => Int32.ofInt 0))), (q3, .inl (cI, 6, .inl (fun _ => Int32.ofInt 0)))] H := hP
  have hD : va_D A [(h0, .inr (2, [.int (Int32.ofInt 0), .int (Int32.ofInt 0), .ref q1, .ref q2, .ref q3, .null])), (q1, .inl (cZ, 720, .inl (fun _ => Int32.ofInt 0))), (q2, .inl (cI, 720, .inl (fun _ => Int32.ofInt 0))), (q3, .inl (cI, 6, .inl (fun _ => Int32.ofInt 0)))] := hD
  refine lv_aload_n hx hb dX2_init_30 rfl (lv_at hl 0 rfl) ?_
  refine lv_bipush (v := 6) hx hb dX2_init_31 (by decide) ?_
  refine va_newa (atype := .int) (ty := .int) (N' := 6) (a0 := (6, .inl (fun _ => Int32.ofInt 0))) hx hb (hTB _ ac_int) rfl hK hP hD hS hA (fun _ => rfl) (by decide) (by decide) (by decide) (Nat.le_of_ble_eq_true rfl) (Nat.le_of_ble_eq_true rfl) dX2_init_33 (fun q4 cA H hK1 hP hD hS => ?_)
  have eC : cA = cI := one_cls hK hK1 (k := 0) (j := 3) rfl rfl (fun _ h => by cases h)
  rw [eC] at hP hD
  clear hK1 eC cA
  have hP : va_P D vwCl [(h0, .inr (2, [.int (Int32.ofInt 0), .int (Int32.ofInt 0), .ref q1, .ref q2, .ref q3, .null])), (q1, .inl (cZ, 720, .inl (fun _ => Int32.ofInt 0))), (q2, .inl (cI, 720, .inl (fun _ => Int32.ofInt 0))), (q3, .inl (cI, 6, .inl (fun _ => Int32.ofInt 0))), (q4, .inl (cI, 6, .inl (fun _ => Int32.ofInt 0)))] H := hP
  have hD : va_D A [(h0, .inr (2, [.int (Int32.ofInt 0), .int (Int32.ofInt 0), .ref q1, .ref q2, .ref q3, .null])), (q1, .inl (cZ, 720, .inl (fun _ => Int32.ofInt 0))), (q2, .inl (cI, 720, .inl (fun _ => Int32.ofInt 0))), (q3, .inl (cI, 6, .inl (fun _ => Int32.ofInt 0))), (q4, .inl (cI, 6, .inl (fun _ => Int32.ofInt 0)))] := hD
  refine va_putF (D := D) (ci := 2) (v := .ref q4) (C := RX2) (T := TX2) (N := 6) hx hb hTB lay_X2 tyX2 tyX2_ok nmX2 hown hK hP hD hS 0 rfl rfl 5 (by decide) (hTB _ fl_RX2_22) (fun _ h9 => h9) rfl hin rfl (tyX2_ok 5 (by decide)) rfl rfl (Nat.le_of_ble_eq_true rfl) dX2_init_35 (fun H locs hP hD hS => ?_)
  have hP : va_P D vwCl [(h0, .inr (2, [.int (Int32.ofInt 0), .int (Int32.ofInt 0), .ref q1, .ref q2, .ref q3, .ref q4])), (q1, .inl (cZ, 720, .inl (fun _ => Int32.ofInt 0))), (q2, .inl (cI, 720, .inl (fun _ => Int32.ofInt 0))), (q3, .inl (cI, 6, .inl (fun _ => Int32.ofInt 0))), (q4, .inl (cI, 6, .inl (fun _ => Int32.ofInt 0)))] H := hP
  have hD : va_D A [(h0, .inr (2, [.int (Int32.ofInt 0), .int (Int32.ofInt 0), .ref q1, .ref q2, .ref q3, .ref q4])), (q1, .inl (cZ, 720, .inl (fun _ => Int32.ofInt 0))), (q2, .inl (cI, 720, .inl (fun _ => Int32.ofInt 0))), (q3, .inl (cI, 6, .inl (fun _ => Int32.ofInt 0))), (q4, .inl (cI, 6, .inl (fun _ => Int32.ofInt 0)))] := hD
  refine W.widen (k := 4) (n := 1452) (Nat.le_of_ble_eq_true rfl) (Nat.le_of_ble_eq_true rfl) ?_
  exact W.vret hx hb hr (fun t ht hW => ⟨⟨(fun i => ([h0, q1, q2, q3, q4] : List Nat).getD i 0), rfl, trivial, by rw [ht]; exact hP, hD⟩, hS.F ht⟩) hS.2.2 dX2_init_38
abbrev wX3 (cI cJ cZ : ClassId) (h0 : Nat) (a : Nat → Nat) : va_W := [(h0, .inr (3, [.int (Int32.ofInt 0), .int (Int32.ofInt 0), .int (Int32.ofInt 0), .int (Int32.ofInt 0), .ref (a 1), .ref (a 2), .ref (a 3), .ref (a 4), .ref (a 5)])), (a 1, .inl (cI, 8, .inl (fun _ => Int32.ofInt 0))), (a 2, .inl (cI, 8, .inl (fun _ => Int32.ofInt 0))), (a 3, .inl (cI, 8, .inl (fun _ => Int32.ofInt 0))), (a 4, .inl (cI, 8, .inl (fun _ => Int32.ofInt 0))), (a 5, .inl (cJ, 64, .inr (.inl (fun _ => Int64.ofInt 0))))]
set_option maxHeartbeats 4000000 in
set_option maxRecDepth 100000 in
theorem ctor_X3 (l : Launch) {D : va_G} {cI cJ cZ : ClassId} (h0 sz : Nat) : Met l yX3_init (.code yX3_init cX3_init 1 none :: TB) ({ frames := 1, cells := 5, slots := 96, locals := 26 }) (va_Pc [.ref h0] (fun U => U.heap.size = sz ∧ va_P D vwCl [(h0, .inr (3, [.int (Int32.ofInt 0), .int (Int32.ofInt 0), .int (Int32.ofInt 0), .int (Int32.ofInt 0), .null, .null, .null, .null, .null]))] U.heap ∧ va_K D vwCl (tyz cI cJ cZ) U)) (va_Qv (fun _ : Nat → Nat => True) (fun a t => va_P D vwCl (wX3 cI cJ cZ h0 a) t.heap ∧ va_D (va_A [(h0, .inr (3, [.int (Int32.ofInt 0), .int (Int32.ofInt 0), .int (Int32.ofInt 0), .int (Int32.ofInt 0), .null, .null, .null, .null, .null]))] sz) (wX3 cI cJ cZ h0 a)) (va_A [(h0, .inr (3, [.int (Int32.ofInt 0), .int (Int32.ofInt 0), .int (Int32.ofInt 0), .int (Int32.ofInt 0), .null, .null, .null, .null, .null]))] sz)) 5 96 (va_A [(h0, .inr (3, [.int (Int32.ofInt 0), .int (Int32.ofInt 0), .int (Int32.ofInt 0), .int (Int32.ofInt 0), .null, .null, .null, .null, .null]))] sz) := by
  refine Met.ofW (cc := cX3_init) (maxL := 1) (ret := none) (by decide) rfl ?_
  intro p e s m args below meth c s₁ B hml hv
  obtain ⟨rfl, hsz, hP, hK⟩ := hv
  have hx := B.exec
  have hb := B.bytes
  have hr := B.returns
  have hts := atoms_spec (ws := .code yX3_init cX3_init 1 none :: TB) B.pre
  have hTB : ∀ w ∈ TB, w.before _ s = true := fun w hw => hts w (List.mem_cons_of_mem _ hw)
  have hown : s.vm.findClass RX3 = some m.cls := findClass_of_methodNamed B.named
  have hlocks := B.notSynchronized
  have hin : meth.name = "<init>" := (name_of_methodNamed B.named B.method).1
  subst hsz
  have hD := va_one h0 (.inr (3, [.int (Int32.ofInt 0), .int (Int32.ofInt 0), .int (Int32.ofInt 0), .int (Int32.ofInt 0), .null, .null, .null, .null, .null])) s.heap.size
  generalize hAe : va_A [(h0, .inr (3, [.int (Int32.ofInt 0), .int (Int32.ofInt 0), .int (Int32.ofInt 0), .int (Int32.ofInt 0), .null, .null, .null, .null, .null]))] s.heap.size = A at hD ⊢
  have hA : ∀ q : Nat, s.heap.size ≤ q → A q := fun q h => by rw [← hAe]; exact Or.inr h
  have hS : va_S A s.heap s.heap [] := va_S.rf
  have hl := lv_entry ([.ref h0]) (n := 1) (Nat.le_of_ble_eq_true rfl)
  rw [lg_entry_eq]
  generalize (lg_sl ([.ref h0]) ++ List.replicate (1 - (lg_sl ([.ref h0])).length) Slot.unset).toArray = ls at hl ⊢
  have hl : lv_has ls 1 [(0, .ref h0)] := hl
  refine lv_aload_n hx hb dX3_init_0 rfl (lv_at hl 0 rfl) ?_
  refine W.objInit hx hb hown (hTB _ ml_RX3_3) (hTB _ im_obj) (hTB _ cd_obj) rfl (by rw [hml]; exact hl.1) rfl dX3_init_1 (Nat.le_of_ble_eq_true rfl) (Nat.le_of_ble_eq_true rfl) ?_
  refine W.eq (g2 := F0 m 4 ls []) rfl ?_
  refine lv_aload_n hx hb dX3_init_4 rfl (lv_at hl 0 rfl) ?_
  refine lv_bipush (v := 8) hx hb dX3_init_5 (by decide) ?_
  refine va_newa (atype := .int) (ty := .int) (N' := 8) (a0 := (8, .inl (fun _ => Int32.ofInt 0))) hx hb (hTB _ ac_int) rfl hK hP hD hS hA (fun _ => rfl) (by decide) (by decide) (by decide) (Nat.le_of_ble_eq_true rfl) (Nat.le_of_ble_eq_true rfl) dX3_init_7 (fun q1 cA H hK1 hP hD hS => ?_)
  have eC : cA = cI := one_cls hK hK1 (k := 0) (j := 3) rfl rfl (fun _ h => by cases h)
  rw [eC] at hP hD
  clear hK1 eC cA
  have hP : va_P D vwCl [(h0, .inr (3, [.int (Int32.ofInt 0), .int (Int32.ofInt 0), .int (Int32.ofInt 0), .int (Int32.ofInt 0), .null, .null, .null, .null, .null])), (q1, .inl (cI, 8, .inl (fun _ => Int32.ofInt 0)))] H := hP
  have hD : va_D A [(h0, .inr (3, [.int (Int32.ofInt 0), .int (Int32.ofInt 0), .int (Int32.ofInt 0), .int (Int32.ofInt 0), .null, .null, .null, .null, .null])), (q1, .inl (cI, 8, .inl (fun _ => Int32.ofInt 0)))] := hD
  refine va_putF (D := D) (ci := 3) (v := .ref q1) (C := RX3) (T := TX3) (N := 9) hx hb hTB lay_X3 tyX3 tyX3_ok nmX3 hown hK hP hD hS 0 rfl rfl 4 (by decide) (hTB _ fl_RX3_9) (fun _ h9 => h9) rfl hin rfl (tyX3_ok 4 (by decide)) rfl rfl (Nat.le_of_ble_eq_true rfl) dX3_init_9 (fun H locs hP hD hS => ?_)
  have hP : va_P D vwCl [(h0, .inr (3, [.int (Int32.ofInt 0), .int (Int32.ofInt 0), .int (Int32.ofInt 0), .int (Int32.ofInt 0), .ref q1, .null, .null, .null, .null])), (q1, .inl (cI, 8, .inl (fun _ => Int32.ofInt 0)))] H := hP
  have hD : va_D A [(h0, .inr (3, [.int (Int32.ofInt 0), .int (Int32.ofInt 0), .int (Int32.ofInt 0), .int (Int32.ofInt 0), .ref q1, .null, .null, .null, .null])), (q1, .inl (cI, 8, .inl (fun _ => Int32.ofInt 0)))] := hD
  refine lv_aload_n hx hb dX3_init_12 rfl (lv_at hl 0 rfl) ?_
  refine lv_bipush (v := 8) hx hb dX3_init_13 (by decide) ?_
  refine va_newa (atype := .int) (ty := .int) (N' := 8) (a0 := (8, .inl (fun _ => Int32.ofInt 0))) hx hb (hTB _ ac_int) rfl hK hP hD hS hA (fun _ => rfl) (by decide) (by decide) (by decide) (Nat.le_of_ble_eq_true rfl) (Nat.le_of_ble_eq_true rfl) dX3_init_15 (fun q2 cA H hK1 hP hD hS => ?_)
  have eC : cA = cI := one_cls hK hK1 (k := 0) (j := 3) rfl rfl (fun _ h => by cases h)
  rw [eC] at hP hD
  clear hK1 eC cA
  have hP : va_P D vwCl [(h0, .inr (3, [.int (Int32.ofInt 0), .int (Int32.ofInt 0), .int (Int32.ofInt 0), .int (Int32.ofInt 0), .ref q1, .null, .null, .null, .null])), (q1, .inl (cI, 8, .inl (fun _ => Int32.ofInt 0))), (q2, .inl (cI, 8, .inl (fun _ => Int32.ofInt 0)))] H := hP
  have hD : va_D A [(h0, .inr (3, [.int (Int32.ofInt 0), .int (Int32.ofInt 0), .int (Int32.ofInt 0), .int (Int32.ofInt 0), .ref q1, .null, .null, .null, .null])), (q1, .inl (cI, 8, .inl (fun _ => Int32.ofInt 0))), (q2, .inl (cI, 8, .inl (fun _ => Int32.ofInt 0)))] := hD
  refine va_putF (D := D) (ci := 3) (v := .ref q2) (C := RX3) (T := TX3) (N := 9) hx hb hTB lay_X3 tyX3 tyX3_ok nmX3 hown hK hP hD hS 0 rfl rfl 5 (by decide) (hTB _ fl_RX3_15) (fun _ h9 => h9) rfl hin rfl (tyX3_ok 5 (by decide)) rfl rfl (Nat.le_of_ble_eq_true rfl) dX3_init_17 (fun H locs hP hD hS => ?_)
  have hP : va_P D vwCl [(h0, .inr (3, [.int (Int32.ofInt 0), .int (Int32.ofInt 0), .int (Int32.ofInt 0), .int (Int32.ofInt 0), .ref q1, .ref q2, .null, .null, .null])), (q1, .inl (cI, 8, .inl (fun _ => Int32.ofInt 0))), (q2, .inl (cI, 8, .inl (fun _ => Int32.ofInt 0)))] H := hP
  have hD : va_D A [(h0, .inr (3, [.int (Int32.ofInt 0), .int (Int32.ofInt 0), .int (Int32.ofInt 0), .int (Int32.ofInt 0), .ref q1, .ref q2, .null, .null, .null])), (q1, .inl (cI, 8, .inl (fun _ => Int32.ofInt 0))), (q2, .inl (cI, 8, .inl (fun _ => Int32.ofInt 0)))] := hD
  refine lv_aload_n hx hb dX3_init_20 rfl (lv_at hl 0 rfl) ?_
  refine lv_bipush (v := 8) hx hb dX3_init_21 (by decide) ?_
  refine va_newa (atype := .int) (ty := .int) (N' := 8) (a0 := (8, .inl (fun _ => Int32.ofInt 0))) hx hb (hTB _ ac_int) rfl hK hP hD hS hA (fun _ => rfl) (by decide) (by decide) (by decide) (Nat.le_of_ble_eq_true rfl) (Nat.le_of_ble_eq_true rfl) dX3_init_23 (fun q3 cA H hK1 hP hD hS => ?_)
  have eC : cA = cI := one_cls hK hK1 (k := 0) (j := 3) rfl rfl (fun _ h => by cases h)
  rw [eC] at hP hD
  clear hK1 eC cA
  have hP : va_P D vwCl [(h0, .inr (3, [.int (Int32.ofInt 0), .int (Int32.ofInt 0), .int (Int32.ofInt 0), .int (Int32.ofInt 0), .ref q1, .ref q2, .null, .null, .null])), (q1, .inl (cI, 8, .inl (fun _ => Int32.ofInt 0))), (q2, .inl (cI, 8, .inl (fun _ => Int32.ofInt 0))), (q3, .inl (cI, 8, .inl (fun _ => Int32.ofInt 0)))] H := hP
  have hD : va_D A [(h0, .inr (3, [.int (Int32.ofInt 0), .int (Int32.ofInt 0), .int (Int32.ofInt 0), .int (Int32.ofInt 0), .ref q1, .ref q2, .null, .null, .null])), (q1, .inl (cI, 8, .inl (fun _ => Int32.ofInt 0))), (q2, .inl (cI, 8, .inl (fun _ => Int32.ofInt 0))), (q3, .inl (cI, 8, .inl (fun _ => Int32.ofInt 0)))] := hD
  refine va_putF (D := D) (ci := 3) (v := .ref q3) (C := RX3) (T := TX3) (N := 9) hx hb hTB lay_X3 tyX3 tyX3_ok nmX3 hown hK hP hD hS 0 rfl rfl 6 (by decide) (hTB _ fl_RX3_18) (fun _ h9 => h9) rfl hin rfl (tyX3_ok 6 (by decide)) rfl rfl (Nat.le_of_ble_eq_true rfl) dX3_init_25 (fun H locs hP hD hS => ?_)
  have hP : va_P D vwCl [(h0, .inr (3, [.int (Int32.ofInt 0), .int (Int32.ofInt 0), .int (Int32.ofInt 0), .int (Int32.ofInt 0), .ref q1, .ref q2, .ref q3, .null, .null])), (q1, .inl (cI, 8, .inl (fun _ => Int32.ofInt 0))), (q2, .inl (cI, 8, .inl (fun _ => Int32.ofInt 0))), (q3, .inl (cI, 8, .inl (fun _ => Int32.ofInt 0)))] H := hP
  have hD : va_D A [(h0, .inr (3, [.int (Int32.ofInt 0), .int (Int32.ofInt 0), .int (Int32.ofInt 0), .int (Int32.ofInt 0), .ref q1, .ref q2, .ref q3, .null, .null])), (q1, .inl (cI, 8, .inl (fun _ => Int32.ofInt 0))), (q2, .inl (cI, 8, .inl (fun _ => Int32.ofInt 0))), (q3, .inl (cI, 8, .inl (fun _ => Int32.ofInt 0)))] := hD
  refine lv_aload_n hx hb dX3_init_28 rfl (lv_at hl 0 rfl) ?_
  refine lv_bipush (v := 8) hx hb dX3_init_29 (by decide) ?_
  refine va_newa (atype := .int) (ty := .int) (N' := 8) (a0 := (8, .inl (fun _ => Int32.ofInt 0))) hx hb (hTB _ ac_int) rfl hK hP hD hS hA (fun _ => rfl) (by decide) (by decide) (by decide) (Nat.le_of_ble_eq_true rfl) (Nat.le_of_ble_eq_true rfl) dX3_init_31 (fun q4 cA H hK1 hP hD hS => ?_)
  have eC : cA = cI := one_cls hK hK1 (k := 0) (j := 3) rfl rfl (fun _ h => by cases h)
  rw [eC] at hP hD
  clear hK1 eC cA
  have hP : va_P D vwCl [(h0, .inr (3, [.int (Int32.ofInt 0), .int (Int32.ofInt 0), .int (Int32.ofInt 0), .int (Int32.ofInt 0), .ref q1, .ref q2, .ref q3, .null, .null])), (q1, .inl (cI, 8, .inl (fun _ => Int32.ofInt 0))), (q2, .inl (cI, 8, .inl (fun _ => Int32.ofInt 0))), (q3, .inl (cI, 8, .inl (fun _ => Int32.ofInt 0))), (q4, .inl (cI, 8, .inl (fun _ => Int32.ofInt 0)))] H := hP
  have hD : va_D A [(h0, .inr (3, [.int (Int32.ofInt 0), .int (Int32.ofInt 0), .int (Int32.ofInt 0), .int (Int32.ofInt 0), .ref q1, .ref q2, .ref q3, .null, .null])), (q1, .inl (cI, 8, .inl (fun _ => Int32.ofInt 0))), (q2, .inl (cI, 8, .inl (fun _ => Int32.ofInt 0))), (q3, .inl (cI, 8, .inl (fun _ => Int32.ofInt 0))), (q4, .inl (cI, 8, .inl (fun _ => Int32.ofInt 0)))] := hD
  refine va_putF (D := D) (ci := 3) (v := .ref q4) (C := RX3) (T := TX3) (N := 9) hx hb hTB lay_X3 tyX3 tyX3_ok nmX3 hown hK hP hD hS 0 rfl rfl 7 (by decide) (hTB _ fl_RX3_21) (fun _ h9 => h9) rfl hin rfl (tyX3_ok 7 (by decide)) rfl rfl (Nat.le_of_ble_eq_true rfl) dX3_init_33 (fun H locs hP hD hS => ?_)
  have hP : va_P D vwCl [(h0, .inr (3, [.int (Int32.ofInt 0), .int (Int32.ofInt 0), .int (Int32.ofInt 0), .int (Int32.ofInt 0), .ref q1, .ref q2, .ref q3, .ref q4, .null])), (q1, .inl (cI, 8, .inl (fun _ => Int32.ofInt 0))), (q2, .inl (cI, 8, .inl (fun _ => Int32.ofInt 0))), (q3, .inl (cI, 8, .inl (fun _ => Int32.ofInt 0))), (q4, .inl (cI, 8, .inl (fun _ => Int32.ofInt 0)))] H := hP
  have hD : va_D A [(h0, .inr (3, [.int (Int32.ofInt 0), .int (Int32.ofInt 0), .int (Int32.ofInt 0), .int (Int32.ofInt 0), .ref q1, .ref q2, .ref q3, .ref q4, .null])), (q1, .inl (cI, 8, .inl (fun _ => Int32.ofInt 0))), (q2, .inl (cI, 8, .inl (fun _ => Int32.ofInt 0))), (q3, .inl (cI, 8, .inl (fun _ => Int32.ofInt 0))), (q4, .inl (cI, 8, .inl (fun _ => Int32.ofInt 0)))] := hD
  refine lv_aload_n hx hb dX3_init_36 rfl (lv_at hl 0 rfl) ?_
  refine lv_bipush (v := 64) hx hb dX3_init_37 (by decide) ?_
  refine va_newa (atype := .long) (ty := .long) (N' := 64) (a0 := (64, .inr (.inl (fun _ => Int64.ofInt 0)))) hx hb (hTB _ ac_long) rfl hK hP hD hS hA (fun _ => rfl) (by decide) (by decide) (by decide) (Nat.le_of_ble_eq_true rfl) (Nat.le_of_ble_eq_true rfl) dX3_init_39 (fun q5 cA H hK1 hP hD hS => ?_)
  have eC : cA = cJ := one_cls hK hK1 (k := 1) (j := 3) rfl rfl (fun _ h => by cases h)
  rw [eC] at hP hD
  clear hK1 eC cA
  have hP : va_P D vwCl [(h0, .inr (3, [.int (Int32.ofInt 0), .int (Int32.ofInt 0), .int (Int32.ofInt 0), .int (Int32.ofInt 0), .ref q1, .ref q2, .ref q3, .ref q4, .null])), (q1, .inl (cI, 8, .inl (fun _ => Int32.ofInt 0))), (q2, .inl (cI, 8, .inl (fun _ => Int32.ofInt 0))), (q3, .inl (cI, 8, .inl (fun _ => Int32.ofInt 0))), (q4, .inl (cI, 8, .inl (fun _ => Int32.ofInt 0))), (q5, .inl (cJ, 64, .inr (.inl (fun _ => Int64.ofInt 0))))] H := hP
  have hD : va_D A [(h0, .inr (3, [.int (Int32.ofInt 0), .int (Int32.ofInt 0), .int (Int32.ofInt 0), .int (Int32.ofInt 0), .ref q1, .ref q2, .ref q3, .ref q4, .null])), (q1, .inl (cI, 8, .inl (fun _ => Int32.ofInt 0))), (q2, .inl (cI, 8, .inl (fun _ => Int32.ofInt 0))), (q3, .inl (cI, 8, .inl (fun _ => Int32.ofInt 0))), (q4, .inl (cI, 8, .inl (fun _ => Int32.ofInt 0))), (q5, .inl (cJ, 64, .inr (.inl (fun _ => Int64.ofInt 0))))] := hD
  refine va_putF (D := D) (ci := 3) (v := .ref q5) (C := RX3) (T := TX3) (N := 9) hx hb hTB lay_X3 tyX3 tyX3_ok nmX3 hown hK hP hD hS 0 rfl rfl 8 (by decide) (hTB _ fl_RX3_24) (fun _ h9 => h9) rfl hin rfl (tyX3_ok 8 (by decide)) rfl rfl (Nat.le_of_ble_eq_true rfl) dX3_init_41 (fun H locs hP hD hS => ?_)
  have hP : va_P D vwCl [(h0, .inr (3, [.int (Int32.ofInt 0), .int (Int32.ofInt 0), .int (Int32.ofInt 0), .int (Int32.ofInt 0), .ref q1, .ref q2, .ref q3, .ref q4, .ref q5])), (q1, .inl (cI, 8, .inl (fun _ => Int32.ofInt 0))), (q2, .inl (cI, 8, .inl (fun _ => Int32.ofInt 0))), (q3, .inl (cI, 8, .inl (fun _ => Int32.ofInt 0))), (q4, .inl (cI, 8, .inl (fun _ => Int32.ofInt 0))), (q5, .inl (cJ, 64, .inr (.inl (fun _ => Int64.ofInt 0))))] H := hP
  have hD : va_D A [(h0, .inr (3, [.int (Int32.ofInt 0), .int (Int32.ofInt 0), .int (Int32.ofInt 0), .int (Int32.ofInt 0), .ref q1, .ref q2, .ref q3, .ref q4, .ref q5])), (q1, .inl (cI, 8, .inl (fun _ => Int32.ofInt 0))), (q2, .inl (cI, 8, .inl (fun _ => Int32.ofInt 0))), (q3, .inl (cI, 8, .inl (fun _ => Int32.ofInt 0))), (q4, .inl (cI, 8, .inl (fun _ => Int32.ofInt 0))), (q5, .inl (cJ, 64, .inr (.inl (fun _ => Int64.ofInt 0))))] := hD
  refine W.widen (k := 5) (n := 96) (Nat.le_of_ble_eq_true rfl) (Nat.le_of_ble_eq_true rfl) ?_
  exact W.vret hx hb hr (fun t ht hW => ⟨⟨(fun i => ([h0, q1, q2, q3, q4, q5] : List Nat).getD i 0), rfl, trivial, by rw [ht]; exact hP, hD⟩, hS.F ht⟩) hS.2.2 dX3_init_44
abbrev wX4 (cI cJ cZ : ClassId) (h0 : Nat) (a : Nat → Nat) : va_W := [(h0, .inr (4, [.int (Int32.ofInt 0), .ref (a 1), .ref (a 2), .ref (a 3)])), (a 1, .inl (cI, 8, .inl (fun _ => Int32.ofInt 0))), (a 2, .inl (cI, 8, .inl (fun _ => Int32.ofInt 0))), (a 3, .inl (cI, 8, .inl (fun _ => Int32.ofInt 0)))]
set_option maxHeartbeats 4000000 in
set_option maxRecDepth 100000 in
theorem ctor_X4 (l : Launch) {D : va_G} {cI cJ cZ : ClassId} (h0 sz : Nat) : Met l yX4_init (.code yX4_init cX4_init 1 none :: TB) ({ frames := 1, cells := 3, slots := 24, locals := 26 }) (va_Pc [.ref h0] (fun U => U.heap.size = sz ∧ va_P D vwCl [(h0, .inr (4, [.int (Int32.ofInt 0), .null, .null, .null]))] U.heap ∧ va_K D vwCl (tyz cI cJ cZ) U)) (va_Qv (fun _ : Nat → Nat => True) (fun a t => va_P D vwCl (wX4 cI cJ cZ h0 a) t.heap ∧ va_D (va_A [(h0, .inr (4, [.int (Int32.ofInt 0), .null, .null, .null]))] sz) (wX4 cI cJ cZ h0 a)) (va_A [(h0, .inr (4, [.int (Int32.ofInt 0), .null, .null, .null]))] sz)) 3 24 (va_A [(h0, .inr (4, [.int (Int32.ofInt 0), .null, .null, .null]))] sz) := by
  refine Met.ofW (cc := cX4_init) (maxL := 1) (ret := none) (by decide) rfl ?_
  intro p e s m args below meth c s₁ B hml hv
  obtain ⟨rfl, hsz, hP, hK⟩ := hv
  have hx := B.exec
  have hb := B.bytes
  have hr := B.returns
  have hts := atoms_spec (ws := .code yX4_init cX4_init 1 none :: TB) B.pre
  have hTB : ∀ w ∈ TB, w.before _ s = true := fun w hw => hts w (List.mem_cons_of_mem _ hw)
  have hown : s.vm.findClass RX4 = some m.cls := findClass_of_methodNamed B.named
  have hlocks := B.notSynchronized
  have hin : meth.name = "<init>" := (name_of_methodNamed B.named B.method).1
  subst hsz
  have hD := va_one h0 (.inr (4, [.int (Int32.ofInt 0), .null, .null, .null])) s.heap.size
  generalize hAe : va_A [(h0, .inr (4, [.int (Int32.ofInt 0), .null, .null, .null]))] s.heap.size = A at hD ⊢
  have hA : ∀ q : Nat, s.heap.size ≤ q → A q := fun q h => by rw [← hAe]; exact Or.inr h
  have hS : va_S A s.heap s.heap [] := va_S.rf
  have hl := lv_entry ([.ref h0]) (n := 1) (Nat.le_of_ble_eq_true rfl)
  rw [lg_entry_eq]
  generalize (lg_sl ([.ref h0]) ++ List.replicate (1 - (lg_sl ([.ref h0])).length) Slot.unset).toArray = ls at hl ⊢
  have hl : lv_has ls 1 [(0, .ref h0)] := hl
  refine lv_aload_n hx hb dX4_init_0 rfl (lv_at hl 0 rfl) ?_
  refine W.objInit hx hb hown (hTB _ ml_RX4_3) (hTB _ im_obj) (hTB _ cd_obj) rfl (by rw [hml]; exact hl.1) rfl dX4_init_1 (Nat.le_of_ble_eq_true rfl) (Nat.le_of_ble_eq_true rfl) ?_
  refine W.eq (g2 := F0 m 4 ls []) rfl ?_
  refine lv_aload_n hx hb dX4_init_4 rfl (lv_at hl 0 rfl) ?_
  refine lv_bipush (v := 8) hx hb dX4_init_5 (by decide) ?_
  refine va_newa (atype := .int) (ty := .int) (N' := 8) (a0 := (8, .inl (fun _ => Int32.ofInt 0))) hx hb (hTB _ ac_int) rfl hK hP hD hS hA (fun _ => rfl) (by decide) (by decide) (by decide) (Nat.le_of_ble_eq_true rfl) (Nat.le_of_ble_eq_true rfl) dX4_init_7 (fun q1 cA H hK1 hP hD hS => ?_)
  have eC : cA = cI := one_cls hK hK1 (k := 0) (j := 3) rfl rfl (fun _ h => by cases h)
  rw [eC] at hP hD
  clear hK1 eC cA
  have hP : va_P D vwCl [(h0, .inr (4, [.int (Int32.ofInt 0), .null, .null, .null])), (q1, .inl (cI, 8, .inl (fun _ => Int32.ofInt 0)))] H := hP
  have hD : va_D A [(h0, .inr (4, [.int (Int32.ofInt 0), .null, .null, .null])), (q1, .inl (cI, 8, .inl (fun _ => Int32.ofInt 0)))] := hD
  refine va_putF (D := D) (ci := 4) (v := .ref q1) (C := RX4) (T := TX4) (N := 4) hx hb hTB lay_X4 tyX4 tyX4_ok nmX4 hown hK hP hD hS 0 rfl rfl 1 (by decide) (hTB _ fl_RX4_9) (fun _ h9 => h9) rfl hin rfl (tyX4_ok 1 (by decide)) rfl rfl (Nat.le_of_ble_eq_true rfl) dX4_init_9 (fun H locs hP hD hS => ?_)
  have hP : va_P D vwCl [(h0, .inr (4, [.int (Int32.ofInt 0), .ref q1, .null, .null])), (q1, .inl (cI, 8, .inl (fun _ => Int32.ofInt 0)))] H := hP
  have hD : va_D A [(h0, .inr (4, [.int (Int32.ofInt 0), .ref q1, .null, .null])), (q1, .inl (cI, 8, .inl (fun _ => Int32.ofInt 0)))] := hD
  refine lv_aload_n hx hb dX4_init_12 rfl (lv_at hl 0 rfl) ?_
  refine lv_bipush (v := 8) hx hb dX4_init_13 (by decide) ?_
  refine va_newa (atype := .int) (ty := .int) (N' := 8) (a0 := (8, .inl (fun _ => Int32.ofInt 0))) hx hb (hTB _ ac_int) rfl hK hP hD hS hA (fun _ => rfl) (by decide) (by decide) (by decide) (Nat.le_of_ble_eq_true rfl) (Nat.le_of_ble_eq_true rfl) dX4_init_15 (fun q2 cA H hK1 hP hD hS => ?_)
  have eC : cA = cI := one_cls hK hK1 (k := 0) (j := 3) rfl rfl (fun _ h => by cases h)
  rw [eC] at hP hD
  clear hK1 eC cA
  have hP : va_P D vwCl [(h0, .inr (4, [.int (Int32.ofInt 0), .ref q1, .null, .null])), (q1, .inl (cI, 8, .inl (fun _ => Int32.ofInt 0))), (q2, .inl (cI, 8, .inl (fun _ => Int32.ofInt 0)))] H := hP
  have hD : va_D A [(h0, .inr (4, [.int (Int32.ofInt 0), .ref q1, .null, .null])), (q1, .inl (cI, 8, .inl (fun _ => Int32.ofInt 0))), (q2, .inl (cI, 8, .inl (fun _ => Int32.ofInt 0)))] := hD
  refine va_putF (D := D) (ci := 4) (v := .ref q2) (C := RX4) (T := TX4) (N := 4) hx hb hTB lay_X4 tyX4 tyX4_ok nmX4 hown hK hP hD hS 0 rfl rfl 2 (by decide) (hTB _ fl_RX4_15) (fun _ h9 => h9) rfl hin rfl (tyX4_ok 2 (by decide)) rfl rfl (Nat.le_of_ble_eq_true rfl) dX4_init_17 (fun H locs hP hD hS => ?_)
  have hP : va_P D vwCl [(h0, .inr (4, [.int (Int32.ofInt 0), .ref q1, .ref q2, .null])), (q1, .inl (cI, 8, .inl (fun _ => Int32.ofInt 0))), (q2, .inl (cI, 8, .inl (fun _ => Int32.ofInt 0)))] H := hP
  have hD : va_D A [(h0, .inr (4, [.int (Int32.ofInt 0), .ref q1, .ref q2, .null])), (q1, .inl (cI, 8, .inl (fun _ => Int32.ofInt 0))), (q2, .inl (cI, 8, .inl (fun _ => Int32.ofInt 0)))] := hD
  refine lv_aload_n hx hb dX4_init_20 rfl (lv_at hl 0 rfl) ?_
  refine lv_bipush (v := 8) hx hb dX4_init_21 (by decide) ?_
  refine va_newa (atype := .int) (ty := .int) (N' := 8) (a0 := (8, .inl (fun _ => Int32.ofInt 0))) hx hb (hTB _ ac_int) rfl hK hP hD hS hA (fun _ => rfl) (by decide) (by decide) (by decide) (Nat.le_of_ble_eq_true rfl) (Nat.le_of_ble_eq_true rfl) dX4_init_23 (fun q3 cA H hK1 hP hD hS => ?_)
  have eC : cA = cI := one_cls hK hK1 (k := 0) (j := 3) rfl rfl (fun _ h => by cases h)
  rw [eC] at hP hD
  clear hK1 eC cA
  have hP : va_P D vwCl [(h0, .inr (4, [.int (Int32.ofInt 0), .ref q1, .ref q2, .null])), (q1, .inl (cI, 8, .inl (fun _ => Int32.ofInt 0))), (q2, .inl (cI, 8, .inl (fun _ => Int32.ofInt 0))), (q3, .inl (cI, 8, .inl (fun _ => Int32.ofInt 0)))] H := hP
  have hD : va_D A [(h0, .inr (4, [.int (Int32.ofInt 0), .ref q1, .ref q2, .null])), (q1, .inl (cI, 8, .inl (fun _ => Int32.ofInt 0))), (q2, .inl (cI, 8, .inl (fun _ => Int32.ofInt 0))), (q3, .inl (cI, 8, .inl (fun _ => Int32.ofInt 0)))] := hD
  refine va_putF (D := D) (ci := 4) (v := .ref q3) (C := RX4) (T := TX4) (N := 4) hx hb hTB lay_X4 tyX4 tyX4_ok nmX4 hown hK hP hD hS 0 rfl rfl 3 (by decide) (hTB _ fl_RX4_18) (fun _ h9 => h9) rfl hin rfl (tyX4_ok 3 (by decide)) rfl rfl (Nat.le_of_ble_eq_true rfl) dX4_init_25 (fun H locs hP hD hS => ?_)
  have hP : va_P D vwCl [(h0, .inr (4, [.int (Int32.ofInt 0), .ref q1, .ref q2, .ref q3])), (q1, .inl (cI, 8, .inl (fun _ => Int32.ofInt 0))), (q2, .inl (cI, 8, .inl (fun _ => Int32.ofInt 0))), (q3, .inl (cI, 8, .inl (fun _ => Int32.ofInt 0)))] H := hP
  have hD : va_D A [(h0, .inr (4, [.int (Int32.ofInt 0), .ref q1, .ref q2, .ref q3])), (q1, .inl (cI, 8, .inl (fun _ => Int32.ofInt 0))), (q2, .inl (cI, 8, .inl (fun _ => Int32.ofInt 0))), (q3, .inl (cI, 8, .inl (fun _ => Int32.ofInt 0)))] := hD
  refine W.widen (k := 3) (n := 24) (Nat.le_of_ble_eq_true rfl) (Nat.le_of_ble_eq_true rfl) ?_
  exact W.vret hx hb hr (fun t ht hW => ⟨⟨(fun i => ([h0, q1, q2, q3] : List Nat).getD i 0), rfl, trivial, by rw [ht]; exact hP, hD⟩, hS.F ht⟩) hS.2.2 dX4_init_28
abbrev wX5 (cI cJ cZ : ClassId) (h0 : Nat) (a : Nat → Nat) : va_W := [(h0, .inr (5, [.int (Int32.ofInt 0), .long (Int64.ofInt 0), .long (Int64.ofInt 0)]))]
set_option maxHeartbeats 4000000 in
set_option maxRecDepth 100000 in
theorem ctor_X5 (l : Launch) {D : va_G} {cI cJ cZ : ClassId} (h0 sz : Nat) : Met l yX5_init (.code yX5_init cX5_init 1 none :: TB) ({ frames := 1, cells := 0, slots := 0, locals := 26 }) (va_Pc [.ref h0] (fun U => U.heap.size = sz ∧ va_P D vwCl [(h0, .inr (5, [.int (Int32.ofInt 0), .long (Int64.ofInt 0), .long (Int64.ofInt 0)]))] U.heap ∧ va_K D vwCl (tyz cI cJ cZ) U)) (va_Qv (fun _ : Nat → Nat => True) (fun a t => va_P D vwCl (wX5 cI cJ cZ h0 a) t.heap ∧ va_D (va_A [(h0, .inr (5, [.int (Int32.ofInt 0), .long (Int64.ofInt 0), .long (Int64.ofInt 0)]))] sz) (wX5 cI cJ cZ h0 a)) (va_A [(h0, .inr (5, [.int (Int32.ofInt 0), .long (Int64.ofInt 0), .long (Int64.ofInt 0)]))] sz)) 0 0 (va_A [(h0, .inr (5, [.int (Int32.ofInt 0), .long (Int64.ofInt 0), .long (Int64.ofInt 0)]))] sz) := by
  refine Met.ofW (cc := cX5_init) (maxL := 1) (ret := none) (by decide) rfl ?_
  intro p e s m args below meth c s₁ B hml hv
  obtain ⟨rfl, hsz, hP, hK⟩ := hv
  have hx := B.exec
  have hb := B.bytes
  have hr := B.returns
  have hts := atoms_spec (ws := .code yX5_init cX5_init 1 none :: TB) B.pre
  have hTB : ∀ w ∈ TB, w.before _ s = true := fun w hw => hts w (List.mem_cons_of_mem _ hw)
  have hown : s.vm.findClass RX5 = some m.cls := findClass_of_methodNamed B.named
  have hlocks := B.notSynchronized
  have hin : meth.name = "<init>" := (name_of_methodNamed B.named B.method).1
  subst hsz
  have hD := va_one h0 (.inr (5, [.int (Int32.ofInt 0), .long (Int64.ofInt 0), .long (Int64.ofInt 0)])) s.heap.size
  generalize hAe : va_A [(h0, .inr (5, [.int (Int32.ofInt 0), .long (Int64.ofInt 0), .long (Int64.ofInt 0)]))] s.heap.size = A at hD ⊢
  have hA : ∀ q : Nat, s.heap.size ≤ q → A q := fun q h => by rw [← hAe]; exact Or.inr h
  have hS : va_S A s.heap s.heap [] := va_S.rf
  have hl := lv_entry ([.ref h0]) (n := 1) (Nat.le_of_ble_eq_true rfl)
  rw [lg_entry_eq]
  generalize (lg_sl ([.ref h0]) ++ List.replicate (1 - (lg_sl ([.ref h0])).length) Slot.unset).toArray = ls at hl ⊢
  have hl : lv_has ls 1 [(0, .ref h0)] := hl
  refine lv_aload_n hx hb dX5_init_0 rfl (lv_at hl 0 rfl) ?_
  refine W.objInit hx hb hown (hTB _ ml_RX5_1) (hTB _ im_obj) (hTB _ cd_obj) rfl (by rw [hml]; exact hl.1) rfl dX5_init_1 (Nat.le_of_ble_eq_true rfl) (Nat.le_of_ble_eq_true rfl) ?_
  refine W.eq (g2 := F0 m 4 ls []) rfl ?_
  refine W.widen (k := 0) (n := 0) (Nat.le_of_ble_eq_true rfl) (Nat.le_of_ble_eq_true rfl) ?_
  exact W.vret hx hb hr (fun t ht hW => ⟨⟨(fun i => ([h0] : List Nat).getD i 0), rfl, trivial, by rw [ht]; exact hP, hD⟩, hS.F ht⟩) hS.2.2 dX5_init_4
abbrev wX6 (cI cJ cZ : ClassId) (h0 : Nat) (a : Nat → Nat) : va_W := [(h0, .inr (6, [.int (Int32.ofInt 0), .int (Int32.ofInt 0), .ref (a 1), .ref (a 2), .ref (a 3), .ref (a 4), .ref (a 5)])), (a 1, .inl (cI, 8, .inl (fun _ => Int32.ofInt 0))), (a 2, .inl (cJ, 9, .inr (.inl (fun _ => Int64.ofInt 0)))), (a 3, .inl (cJ, 9, .inr (.inl (fun _ => Int64.ofInt 0)))), (a 4, .inl (cJ, 8, .inr (.inl (fun _ => Int64.ofInt 0)))), (a 5, .inl (cJ, 8, .inr (.inl (fun _ => Int64.ofInt 0))))]
set_option maxHeartbeats 4000000 in
set_option maxRecDepth 100000 in
theorem ctor_X6 (l : Launch) {D : va_G} {cI cJ cZ : ClassId} (h0 sz : Nat) : Met l yX6_init (.code yX6_init cX6_init 1 none :: TB) ({ frames := 1, cells := 5, slots := 42, locals := 26 }) (va_Pc [.ref h0] (fun U => U.heap.size = sz ∧ va_P D vwCl [(h0, .inr (6, [.int (Int32.ofInt 0), .int (Int32.ofInt 0), .null, .null, .null, .null, .null]))] U.heap ∧ va_K D vwCl (tyz cI cJ cZ) U)) (va_Qv (fun _ : Nat → Nat => True) (fun a t => va_P D vwCl (wX6 cI cJ cZ h0 a) t.heap ∧ va_D (va_A [(h0, .inr (6, [.int (Int32.ofInt 0), .int (Int32.ofInt 0), .null, .null, .null, .null, .null]))] sz) (wX6 cI cJ cZ h0 a)) (va_A [(h0, .inr (6, [.int (Int32.ofInt 0), .int (Int32.ofInt 0), .null, .null, .null, .null, .null]))] sz)) 5 42 (va_A [(h0, .inr (6, [.int (Int32.ofInt 0), .int (Int32.ofInt 0), .null, .null, .null, .null, .null]))] sz) := by
  refine Met.ofW (cc := cX6_init) (maxL := 1) (ret := none) (by decide) rfl ?_
  intro p e s m args below meth c s₁ B hml hv
  obtain ⟨rfl, hsz, hP, hK⟩ := hv
  have hx := B.exec
  have hb := B.bytes
  have hr := B.returns
  have hts := atoms_spec (ws := .code yX6_init cX6_init 1 none :: TB) B.pre
  have hTB : ∀ w ∈ TB, w.before _ s = true := fun w hw => hts w (List.mem_cons_of_mem _ hw)
  have hown : s.vm.findClass RX6 = some m.cls := findClass_of_methodNamed B.named
  have hlocks := B.notSynchronized
  have hin : meth.name = "<init>" := (name_of_methodNamed B.named B.method).1
  subst hsz
  have hD := va_one h0 (.inr (6, [.int (Int32.ofInt 0), .int (Int32.ofInt 0), .null, .null, .null, .null, .null])) s.heap.size
  generalize hAe : va_A [(h0, .inr (6, [.int (Int32.ofInt 0), .int (Int32.ofInt 0), .null, .null, .null, .null, .null]))] s.heap.size = A at hD ⊢
  have hA : ∀ q : Nat, s.heap.size ≤ q → A q := fun q h => by rw [← hAe]; exact Or.inr h
  have hS : va_S A s.heap s.heap [] := va_S.rf
  have hl := lv_entry ([.ref h0]) (n := 1) (Nat.le_of_ble_eq_true rfl)
  rw [lg_entry_eq]
  generalize (lg_sl ([.ref h0]) ++ List.replicate (1 - (lg_sl ([.ref h0])).length) Slot.unset).toArray = ls at hl ⊢
  have hl : lv_has ls 1 [(0, .ref h0)] := hl
  refine lv_aload_n hx hb dX6_init_0 rfl (lv_at hl 0 rfl) ?_
  refine W.objInit hx hb hown (hTB _ ml_RX6_3) (hTB _ im_obj) (hTB _ cd_obj) rfl (by rw [hml]; exact hl.1) rfl dX6_init_1 (Nat.le_of_ble_eq_true rfl) (Nat.le_of_ble_eq_true rfl) ?_
  refine W.eq (g2 := F0 m 4 ls []) rfl ?_
  refine lv_aload_n hx hb dX6_init_4 rfl (lv_at hl 0 rfl) ?_
  refine lv_bipush (v := 8) hx hb dX6_init_5 (by decide) ?_
  refine va_newa (atype := .int) (ty := .int) (N' := 8) (a0 := (8, .inl (fun _ => Int32.ofInt 0))) hx hb (hTB _ ac_int) rfl hK hP hD hS hA (fun _ => rfl) (by decide) (by decide) (by decide) (Nat.le_of_ble_eq_true rfl) (Nat.le_of_ble_eq_true rfl) dX6_init_7 (fun q1 cA H hK1 hP hD hS => ?_)
  have eC : cA = cI := one_cls hK hK1 (k := 0) (j := 3) rfl rfl (fun _ h => by cases h)
  rw [eC] at hP hD
  clear hK1 eC cA
  have hP : va_P D vwCl [(h0, .inr (6, [.int (Int32.ofInt 0), .int (Int32.ofInt 0), .null, .null, .null, .null, .null])), (q1, .inl (cI, 8, .inl (fun _ => Int32.ofInt 0)))] H := hP
  have hD : va_D A [(h0, .inr (6, [.int (Int32.ofInt 0), .int (Int32.ofInt 0), .null, .null, .null, .null, .null])), (q1, .inl (cI, 8, .inl (fun _ => Int32.ofInt 0)))] := hD
  refine va_putF (D := D) (ci := 6) (v := .ref q1) (C := RX6) (T := TX6) (N := 7) hx hb hTB lay_X6 tyX6 tyX6_ok nmX6 hown hK hP hD hS 0 rfl rfl 2 (by decide) (hTB _ fl_RX6_9) (fun _ h9 => h9) rfl hin rfl (tyX6_ok 2 (by decide)) rfl rfl (Nat.le_of_ble_eq_true rfl) dX6_init_9 (fun H locs hP hD hS => ?_)
  have hP : va_P D vwCl [(h0, .inr (6, [.int (Int32.ofInt 0), .int (Int32.ofInt 0), .ref q1, .null, .null, .null, .null])), (q1, .inl (cI, 8, .inl (fun _ => Int32.ofInt 0)))] H := hP
  have hD : va_D A [(h0, .inr (6, [.int (Int32.ofInt 0), .int (Int32.ofInt 0), .ref q1, .null, .null, .null, .null])), (q1, .inl (cI, 8, .inl (fun _ => Int32.ofInt 0)))] := hD
  refine lv_aload_n hx hb dX6_init_12 rfl (lv_at hl 0 rfl) ?_
  refine lv_bipush (v := 9) hx hb dX6_init_13 (by decide) ?_
  refine va_newa (atype := .long) (ty := .long) (N' := 9) (a0 := (9, .inr (.inl (fun _ => Int64.ofInt 0)))) hx hb (hTB _ ac_long) rfl hK hP hD hS hA (fun _ => rfl) (by decide) (by decide) (by decide) (Nat.le_of_ble_eq_true rfl) (Nat.le_of_ble_eq_true rfl) dX6_init_15 (fun q2 cA H hK1 hP hD hS => ?_)
  have eC : cA = cJ := one_cls hK hK1 (k := 1) (j := 3) rfl rfl (fun _ h => by cases h)
  rw [eC] at hP hD
  clear hK1 eC cA
  have hP : va_P D vwCl [(h0, .inr (6, [.int (Int32.ofInt 0), .int (Int32.ofInt 0), .ref q1, .null, .null, .null, .null])), (q1, .inl (cI, 8, .inl (fun _ => Int32.ofInt 0))), (q2, .inl (cJ, 9, .inr (.inl (fun _ => Int64.ofInt 0))))] H := hP
  have hD : va_D A [(h0, .inr (6, [.int (Int32.ofInt 0), .int (Int32.ofInt 0), .ref q1, .null, .null, .null, .null])), (q1, .inl (cI, 8, .inl (fun _ => Int32.ofInt 0))), (q2, .inl (cJ, 9, .inr (.inl (fun _ => Int64.ofInt 0))))] := hD
  refine va_putF (D := D) (ci := 6) (v := .ref q2) (C := RX6) (T := TX6) (N := 7) hx hb hTB lay_X6 tyX6 tyX6_ok nmX6 hown hK hP hD hS 0 rfl rfl 3 (by decide) (hTB _ fl_RX6_15) (fun _ h9 => h9) rfl hin rfl (tyX6_ok 3 (by decide)) rfl rfl (Nat.le_of_ble_eq_true rfl) dX6_init_17 (fun H locs hP hD hS => ?_)
  have hP : va_P D vwCl [(h0, .inr (6, [.int (Int32.ofInt 0), .int (Int32.ofInt 0), .ref q1, .ref q2, .null, .null, .null])), (q1, .inl (cI, 8, .inl (fun _ => Int32.ofInt 0))), (q2, .inl (cJ, 9, .inr (.inl (fun _ => Int64.ofInt 0))))] H := hP
  have hD : va_D A [(h0, .inr (6, [.int (Int32.ofInt 0), .int (Int32.ofInt 0), .ref q1, .ref q2, .null, .null, .null])), (q1, .inl (cI, 8, .inl (fun _ => Int32.ofInt 0))), (q2, .inl (cJ, 9, .inr (.inl (fun _ => Int64.ofInt 0))))] := hD
  refine lv_aload_n hx hb dX6_init_20 rfl (lv_at hl 0 rfl) ?_
  refine lv_bipush (v := 9) hx hb dX6_init_21 (by decide) ?_
  refine va_newa (atype := .long) (ty := .long) (N' := 9) (a0 := (9, .inr (.inl (fun _ => Int64.ofInt 0)))) hx hb (hTB _ ac_long) rfl hK hP hD hS hA (fun _ => rfl) (by decide) (by decide) (by decide) (Nat.le_of_ble_eq_true rfl) (Nat.le_of_ble_eq_true rfl) dX6_init_23 (fun q3 cA H hK1 hP hD hS => ?_)
  have eC : cA = cJ := one_cls hK hK1 (k := 1) (j := 3) rfl rfl (fun _ h => by cases h)
  rw [eC] at hP hD
  clear hK1 eC cA
  have hP : va_P D vwCl [(h0, .inr (6, [.int (Int32.ofInt 0), .int (Int32.ofInt 0), .ref q1, .ref q2, .null, .null, .null])), (q1, .inl (cI, 8, .inl (fun _ => Int32.ofInt 0))), (q2, .inl (cJ, 9, .inr (.inl (fun _ => Int64.ofInt 0)))), (q3, .inl (cJ, 9, .inr (.inl (fun _ => Int64.ofInt 0))))] H := hP
  have hD : va_D A [(h0, .inr (6, [.int (Int32.ofInt 0), .int (Int32.ofInt 0), .ref q1, .ref q2, .null, .null, .null])), (q1, .inl (cI, 8, .inl (fun _ => Int32.ofInt 0))), (q2, .inl (cJ, 9, .inr (.inl (fun _ => Int64.ofInt 0)))), (q3, .inl (cJ, 9, .inr (.inl (fun _ => Int64.ofInt 0))))] := hD
  refine va_putF (D := D) (ci := 6) (v := .ref q3) (C := RX6) (T := TX6) (N := 7) hx hb hTB lay_X6 tyX6 tyX6_ok nmX6 hown hK hP hD hS 0 rfl rfl 4 (by decide) (hTB _ fl_RX6_19) (fun _ h9 => h9) rfl hin rfl (tyX6_ok 4 (by decide)) rfl rfl (Nat.le_of_ble_eq_true rfl) dX6_init_25 (fun H locs hP hD hS => ?_)
  have hP : va_P D vwCl [(h0, .inr (6, [.int (Int32.ofInt 0), .int (Int32.ofInt 0), .ref q1, .ref q2, .ref q3, .null, .null])), (q1, .inl (cI, 8, .inl (fun _ => Int32.ofInt 0))), (q2, .inl (cJ, 9, .inr (.inl (fun _ => Int64.ofInt 0)))), (q3, .inl (cJ, 9, .inr (.inl (fun _ => Int64.ofInt 0))))] H := hP
  have hD : va_D A [(h0, .inr (6, [.int (Int32.ofInt 0), .int (Int32.ofInt 0), .ref q1, .ref q2, .ref q3, .null, .null])), (q1, .inl (cI, 8, .inl (fun _ => Int32.ofInt 0))), (q2, .inl (cJ, 9, .inr (.inl (fun _ => Int64.ofInt 0)))), (q3, .inl (cJ, 9, .inr (.inl (fun _ => Int64.ofInt 0))))] := hD
  refine lv_aload_n hx hb dX6_init_28 rfl (lv_at hl 0 rfl) ?_
  refine lv_bipush (v := 8) hx hb dX6_init_29 (by decide) ?_
  refine va_newa (atype := .long) (ty := .long) (N' := 8) (a0 := (8, .inr (.inl (fun _ => Int64.ofInt 0)))) hx hb (hTB _ ac_long) rfl hK hP hD hS hA (fun _ => rfl) (by decide) (by decide) (by decide) (Nat.le_of_ble_eq_true rfl) (Nat.le_of_ble_eq_true rfl) dX6_init_31 (fun q4 cA H hK1 hP hD hS => ?_)
  have eC : cA = cJ := one_cls hK hK1 (k := 1) (j := 3) rfl rfl (fun _ h => by cases h)
  rw [eC] at hP hD
  clear hK1 eC cA
  have hP : va_P D vwCl [(h0, .inr (6, [.int (Int32.ofInt 0), .int (Int32.ofInt 0), .ref q1, .ref q2, .ref q3, .null, .null])), (q1, .inl (cI, 8, .inl (fun _ => Int32.ofInt 0))), (q2, .inl (cJ, 9, .inr (.inl (fun _ => Int64.ofInt 0)))), (q3, .inl (cJ, 9, .inr (.inl (fun _ => Int64.ofInt 0)))), (q4, .inl (cJ, 8, .inr (.inl (fun _ => Int64.ofInt 0))))] H := hP
  have hD : va_D A [(h0, .inr (6, [.int (Int32.ofInt 0), .int (Int32.ofInt 0), .ref q1, .ref q2, .ref q3, .null, .null])), (q1, .inl (cI, 8, .inl (fun _ => Int32.ofInt 0))), (q2, .inl (cJ, 9, .inr (.inl (fun _ => Int64.ofInt 0)))), (q3, .inl (cJ, 9, .inr (.inl (fun _ => Int64.ofInt 0)))), (q4, .inl (cJ, 8, .inr (.inl (fun _ => Int64.ofInt 0))))] := hD
  refine va_putF (D := D) (ci := 6) (v := .ref q4) (C := RX6) (T := TX6) (N := 7) hx hb hTB lay_X6 tyX6 tyX6_ok nmX6 hown hK hP hD hS 0 rfl rfl 5 (by decide) (hTB _ fl_RX6_22) (fun _ h9 => h9) rfl hin rfl (tyX6_ok 5 (by decide)) rfl rfl (Nat.le_of_ble_eq_true rfl) dX6_init_33 (fun H locs hP hD hS => ?_)
  have hP : va_P D vwCl [(h0, .inr (6, [.int (Int32.ofInt 0), .int (Int32.ofInt 0), .ref q1, .ref q2, .ref q3, .ref q4, .null])), (q1, .inl (cI, 8, .inl (fun _ => Int32.ofInt 0))), (q2, .inl (cJ, 9, .inr (.inl (fun _ => Int64.ofInt 0)))), (q3, .inl (cJ, 9, .inr (.inl (fun _ => Int64.ofInt 0)))), (q4, .inl (cJ, 8, .inr (.inl (fun _ => Int64.ofInt 0))))] H := hP
  have hD : va_D A [(h0, .inr (6, [.int (Int32.ofInt 0), .int (Int32.ofInt 0), .ref q1, .ref q2, .ref q3, .ref q4, .null])), (q1, .inl (cI, 8, .inl (fun _ => Int32.ofInt 0))), (q2, .inl (cJ, 9, .inr (.inl (fun _ => Int64.ofInt 0)))), (q3, .inl (cJ, 9, .inr (.inl (fun _ => Int64.ofInt 0)))), (q4, .inl (cJ, 8, .inr (.inl (fun _ => Int64.ofInt 0))))] := hD
  refine lv_aload_n hx hb dX6_init_36 rfl (lv_at hl 0 rfl) ?_
  refine lv_bipush (v := 8) hx hb dX6_init_37 (by decide) ?_
  refine va_newa (atype := .long) (ty := .long) (N' := 8) (a0 := (8, .inr (.inl (fun _ => Int64.ofInt 0)))) hx hb (hTB _ ac_long) rfl hK hP hD hS hA (fun _ => rfl) (by decide) (by decide) (by decide) (Nat.le_of_ble_eq_true rfl) (Nat.le_of_ble_eq_true rfl) dX6_init_39 (fun q5 cA H hK1 hP hD hS => ?_)
  have eC : cA = cJ := one_cls hK hK1 (k := 1) (j := 3) rfl rfl (fun _ h => by cases h)
  rw [eC] at hP hD
  clear hK1 eC cA
  have hP : va_P D vwCl [(h0, .inr (6, [.int (Int32.ofInt 0), .int (Int32.ofInt 0), .ref q1, .ref q2, .ref q3, .ref q4, .null])), (q1, .inl (cI, 8, .inl (fun _ => Int32.ofInt 0))), (q2, .inl (cJ, 9, .inr (.inl (fun _ => Int64.ofInt 0)))), (q3, .inl (cJ, 9, .inr (.inl (fun _ => Int64.ofInt 0)))), (q4, .inl (cJ, 8, .inr (.inl (fun _ => Int64.ofInt 0)))), (q5, .inl (cJ, 8, .inr (.inl (fun _ => Int64.ofInt 0))))] H := hP
  have hD : va_D A [(h0, .inr (6, [.int (Int32.ofInt 0), .int (Int32.ofInt 0), .ref q1, .ref q2, .ref q3, .ref q4, .null])), (q1, .inl (cI, 8, .inl (fun _ => Int32.ofInt 0))), (q2, .inl (cJ, 9, .inr (.inl (fun _ => Int64.ofInt 0)))), (q3, .inl (cJ, 9, .inr (.inl (fun _ => Int64.ofInt 0)))), (q4, .inl (cJ, 8, .inr (.inl (fun _ => Int64.ofInt 0)))), (q5, .inl (cJ, 8, .inr (.inl (fun _ => Int64.ofInt 0))))] := hD
  refine va_putF (D := D) (ci := 6) (v := .ref q5) (C := RX6) (T := TX6) (N := 7) hx hb hTB lay_X6 tyX6 tyX6_ok nmX6 hown hK hP hD hS 0 rfl rfl 6 (by decide) (hTB _ fl_RX6_25) (fun _ h9 => h9) rfl hin rfl (tyX6_ok 6 (by decide)) rfl rfl (Nat.le_of_ble_eq_true rfl) dX6_init_41 (fun H locs hP hD hS => ?_)
  have hP : va_P D vwCl [(h0, .inr (6, [.int (Int32.ofInt 0), .int (Int32.ofInt 0), .ref q1, .ref q2, .ref q3, .ref q4, .ref q5])), (q1, .inl (cI, 8, .inl (fun _ => Int32.ofInt 0))), (q2, .inl (cJ, 9, .inr (.inl (fun _ => Int64.ofInt 0)))), (q3, .inl (cJ, 9, .inr (.inl (fun _ => Int64.ofInt 0)))), (q4, .inl (cJ, 8, .inr (.inl (fun _ => Int64.ofInt 0)))), (q5, .inl (cJ, 8, .inr (.inl (fun _ => Int64.ofInt 0))))] H := hP
  have hD : va_D A [(h0, .inr (6, [.int (Int32.ofInt 0), .int (Int32.ofInt 0), .ref q1, .ref q2, .ref q3, .ref q4, .ref q5])), (q1, .inl (cI, 8, .inl (fun _ => Int32.ofInt 0))), (q2, .inl (cJ, 9, .inr (.inl (fun _ => Int64.ofInt 0)))), (q3, .inl (cJ, 9, .inr (.inl (fun _ => Int64.ofInt 0)))), (q4, .inl (cJ, 8, .inr (.inl (fun _ => Int64.ofInt 0)))), (q5, .inl (cJ, 8, .inr (.inl (fun _ => Int64.ofInt 0))))] := hD
  refine W.widen (k := 5) (n := 42) (Nat.le_of_ble_eq_true rfl) (Nat.le_of_ble_eq_true rfl) ?_
  exact W.vret hx hb hr (fun t ht hW => ⟨⟨(fun i => ([h0, q1, q2, q3, q4, q5] : List Nat).getD i 0), rfl, trivial, by rw [ht]; exact hP, hD⟩, hS.F ht⟩) hS.2.2 dX6_init_44
