theorem jj_0 : JJ (fun _ _ => 0) (0, 0, fun _ => 0, fun _ => 0, fun _ => 0) ((0, 0, fun _ => 0, fun _ => 0, fun _ => 0, fun _ => 0, fun _ _ => 0), 0, 0) (0, 0, 0) (0, fun _ => 0, fun _ => 0, fun _ => 0) :=
  ⟨⟨⟨rfl, rfl, fun _ _ => ⟨rfl, rfl⟩, fun _ h => absurd h (Nat.not_lt_zero _)⟩, ⟨rfl, fun h => absurd rfl h⟩, ⟨rfl, fun h => absurd h (by decide)⟩, ⟨rfl, fun _ h => absurd h (Nat.not_lt_zero _)⟩⟩, ⟨⟨rfl, rfl, fun _ _ => ⟨rfl, rfl⟩, fun _ h => absurd h (Nat.not_lt_zero _)⟩, ⟨rfl, fun h => absurd rfl h⟩, ⟨rfl, fun h => absurd h (by decide)⟩, ⟨rfl, fun _ h => absurd h (Nat.not_lt_zero _)⟩⟩, ⟨Or.inl rfl, Or.inl rfl, fun _ _ => ⟨⟨(by decide : (-16384 : Int) ≤ 0), (by decide : (0 : Int) ≤ 16384)⟩, ⟨(by decide : (-16384 : Int) ≤ 0), (by decide : (0 : Int) ≤ 16384)⟩, fun _ => rfl, fun h => absurd ⟨rfl, rfl⟩ h⟩⟩, fun h => absurd rfl h, Or.inl rfl, Nat.zero_le _⟩
abbrev gAt (x0 y0 b : Nat) (u7 u8 : Nat → Nat) : Nat → Nat := fun i => ([x0, u7 1, u7 2, u7 3, u7 4, u7 5, u7 6, u7 7, u7 8, u7 9, u7 10, u7 11, u7 12, u7 13, u7 14, u7 15, u7 16, u7 17, u7 18, u7 19, u7 20, u7 21, u7 22, u7 23, u7 24, u7 25, u7 26, u7 27, u7 28, u7 29, u7 30, u7 31, u7 32, u7 33, u7 34, u7 35, u7 36, u7 37, u7 38, u7 39, u7 40, u7 41, u7 42, u7 43, y0, u8 1, u8 2, u8 3, u8 4, u8 5, u8 6, u8 7, u8 8, u8 9, u8 10, u8 11, u8 12, u8 13, u8 14, u8 15, u8 16, u8 17, u8 18, u8 19, u8 20, u8 21, u8 22, u8 23, u8 24, u8 25, b] : List Nat).getD i 0
set_option maxHeartbeats 8000000 in
set_option maxRecDepth 100000 in
theorem wl_start (x0 y0 b : Nat) (u7 u8 : Nat → Nat) (cI cJ cZ : ClassId) (D : va_G) : wl (gAt x0 y0 b u7 u8, cI, cJ, cZ, D) (fun _ _ => 0) = wX7 cI cJ cZ x0 u7 ++ wX8 cI cJ cZ y0 u8 := rfl
set_option maxHeartbeats 8000000 in
set_option maxRecDepth 100000 in
theorem whole_start {p : Program} {e : Env} {s : State} {m : MethodId} {below : List Frame} {meth : Method} {c : Code} (l : Launch) {b L : Nat} {xs : Nat → Int32} (hL : L ≤ 2048) (C0 : lw_At p s m meth c b L xs) : W p l e room_1 s m #[Value.ref b] below meth c s.heap [] 0 0 (lw_Z below #[Value.ref b] s) (entryFrame m ([Value.ref b] : List Value).toArray 4) := by
  obtain ⟨hx, hb, hr, hml, hown0, hts, hX, hbl, hlocks, hgv⟩ := C0
  have hown : s.vm.findClass RL = some m.cls := hown0
  have hA : ∀ q : Nat, s.heap.size ≤ q → (fun q : Nat => s.heap.size ≤ q) q := fun _ h => h
  have hTB : ∀ w ∈ TB, w.before #[Value.ref b] s = true := fun w hw => hts w (TB_in w hw)
  obtain ⟨c0, iS0, hKn0⟩ := u_known (C := RX0) (T := TX0) (N := 2) (n := 2) hTB lay_X0 (hTB _ it_RX0)
  obtain ⟨c1, iS1, hKn1⟩ := u_known (C := RX1) (T := TX1) (N := 6) (n := 6) hTB lay_X1 (hTB _ it_RX1)
  obtain ⟨c2, iS2, hKn2⟩ := u_known (C := RX2) (T := TX2) (N := 6) (n := 6) hTB lay_X2 (hTB _ it_RX2)
  obtain ⟨c3, iS3, hKn3⟩ := u_known (C := RX3) (T := TX3) (N := 9) (n := 9) hTB lay_X3 (hTB _ it_RX3)
  obtain ⟨c4, iS4, hKn4⟩ := u_known (C := RX4) (T := TX4) (N := 4) (n := 4) hTB lay_X4 (hTB _ it_RX4)
  obtain ⟨c5, iS5, hKn5⟩ := u_known (C := RX5) (T := TX5) (N := 3) (n := 3) hTB lay_X5 (hTB _ it_RX5)
  obtain ⟨c6, iS6, hKn6⟩ := u_known (C := RX6) (T := TX6) (N := 7) (n := 7) hTB lay_X6 (hTB _ it_RX6)
  obtain ⟨c7, iS7, hKn7⟩ := u_known (C := RX7) (T := TX7) (N := 11) (n := 11) hTB lay_X7 (hTB _ it_RX7)
  obtain ⟨c8, iS8, hKn8⟩ := u_known (C := RX8) (T := TX8) (N := 39) (n := 39) hTB lay_X8 (hTB _ it_RX8)
  obtain ⟨D, hKc⟩ : ∃ D : va_G, ∀ (k : Nat) (q : vw_C), vwCl[k]? = some q → u_Kn s q.1 q.2.1 q.2.2 (D.1 k) (D.2 k) := by
    refine ⟨(fun k => ([c0, c1, c2, c3, c4, c5, c6, c7, c8] : List ClassId).getD k c0, fun k => ([iS0, iS1, iS2, iS3, iS4, iS5, iS6, iS7, iS8] : List (Nat → Nat)).getD k iS0), ?_⟩
    intro k q hq
    match k, hq with
    | 0, hq => cases hq; exact hKn0
    | 1, hq => cases hq; exact hKn1
    | 2, hq => cases hq; exact hKn2
    | 3, hq => cases hq; exact hKn3
    | 4, hq => cases hq; exact hKn4
    | 5, hq => cases hq; exact hKn5
    | 6, hq => cases hq; exact hKn6
    | 7, hq => cases hq; exact hKn7
    | 8, hq => cases hq; exact hKn8
    | k + 9, hq => simp [vwCl] at hq
  obtain ⟨cI, kI, oI, fI1, fI2, fI3⟩ := Cond.arrayClass_spec (hTB _ ac_int)
  obtain ⟨cJ, kJ, oJ, fJ1, fJ2, fJ3⟩ := Cond.arrayClass_spec (hTB _ ac_long)
  obtain ⟨cZ, kZ, oZ, fZ1, fZ2, fZ3⟩ := Cond.arrayClass_spec (hTB _ ac_boolean)
  have hK : va_K D vwCl (tyz cI cJ cZ) s := by
    refine ⟨hKc, fun k q h => ?_⟩
    match k, h with
    | 0, h => cases h; exact ⟨fun n z => ⟨fun k h => (by cases h), kI, fI2, oI, fI3⟩, fI1⟩
    | 1, h => cases h; exact ⟨fun n z => ⟨fun k h => (by cases h), kJ, fJ2, oJ, fJ3⟩, fJ1⟩
    | 2, h => cases h; exact ⟨fun n z => ⟨fun k h => (by cases h), kZ, fZ2, oZ, fZ3⟩, fZ1⟩
    | k + 3, h => simp at h
  have hN : NW s := ⟨va_Nw.of rfl (hts (.methodLinkNest RX6 45 yX7_signOf RX7) (by decide +kernel)), va_Nw.of rfl (hts (.methodLinkNest RX6 71 yX7_isWithin RX7) (by decide +kernel)), va_Nw.of rfl (hts (.methodLinkNest RX3 53 yX7_signOf RX7) (by decide +kernel)), va_Nw.of rfl (hts (.methodLinkNest RX3 76 yX7_isWithin RX7) (by decide +kernel))⟩
  have hNc : NWc s := ⟨va_Nw.of rfl (hts (.methodLinkNest RX7 15 yX4_init RX7) (by decide +kernel)), va_Nw.of rfl (hts (.methodLinkNest RX7 22 yX3_init RX7) (by decide +kernel)), va_Nw.of rfl (hts (.methodLinkNest RX7 32 yX6_init RX7) (by decide +kernel)), va_Nw.of rfl (hts (.methodLinkNest RX7 42 yX5_init RX7) (by decide +kernel)), va_Nw.of rfl (hts (.methodLinkNest RX7 52 yX1_init RX7) (by decide +kernel)), va_Nw.of rfl (hts (.methodLinkNest RX7 59 yX2_init RX7) (by decide +kernel)), va_Nw.of rfl (hts (.methodLinkNest RX7 66 yX0_init RX7) (by decide +kernel))⟩
  have hS : va_S (fun q : Nat => s.heap.size ≤ q) s.heap s.heap [] := va_S.rf
  have hP : va_P D vwCl [] s.heap := fun k q h => by simp at h
  have hD : va_D (fun q : Nat => s.heap.size ≤ q) [] := ⟨fun i j p q h => by simp at h, fun k q h => by simp at h⟩
  have hl := lv_entry ([.ref b]) (n := 4) (Nat.le_of_ble_eq_true rfl)
  rw [lg_entry_eq]
  generalize (lg_sl ([.ref b]) ++ List.replicate (4 - (lg_sl ([.ref b])).length) Slot.unset).toArray = ls at hl ⊢
  have hl : lv_has ls 4 [(0, .ref b)] := hl
  refine va_new (ci := 7) (fs := [.int (Int32.ofInt 0), .null, .null, .null, .null, .null, .null, .null, .null, .null, .null]) (C := RX7) (T := TX7) (N := 11) hx hb hTB lay_X7 tyX7 tyX7_ok hown (hTB _ cl_RL_7) (hTB _ it_RX7) (hTB _ in_RX7) hK hP hD hS hA rfl (fun j hj => by rcases (show j = 0 ∨ j = 1 ∨ j = 2 ∨ j = 3 ∨ j = 4 ∨ j = 5 ∨ j = 6 ∨ j = 7 ∨ j = 8 ∨ j = 9 ∨ j = 10 by omega) with rfl | rfl | rfl | rfl | rfl | rfl | rfl | rfl | rfl | rfl | rfl <;> rfl) (Nat.le_of_ble_eq_true rfl) (Nat.le_of_ble_eq_true rfl) dL_law_0 (fun x0 H hP hD hS => ?_)
  have hP : va_P D vwCl [(x0, .inr (7, [.int (Int32.ofInt 0), .null, .null, .null, .null, .null, .null, .null, .null, .null, .null]))] H := hP
  have hD : va_D (fun q : Nat => s.heap.size ≤ q) [(x0, .inr (7, [.int (Int32.ofInt 0), .null, .null, .null, .null, .null, .null, .null, .null, .null, .null]))] := hD
  refine lv_dup hx hb dL_law_3 rfl ?_
  have hFc := va_free (wc := [(x0, .inr (7, [.int (Int32.ofInt 0), .null, .null, .null, .null, .null, .null, .null, .null, .null, .null]))]) hD hS hA [0] rfl
  refine va_callv (va_runI (As := []) (rest := [.ref x0]) ⟨hx, hb, hml, hown, hTB⟩ (ctor_X7 l (cI := cI) (cJ := cJ) (cZ := cZ) x0 H.size) (cwI 0 hTB (gi_tb (gi_cd (M := mX7_init) cd_X7_init)) rfl rfl rfl (hTB _ in_RX7) (hTB _ ml_RL_9) (hTB _ im_X7_init) rfl (by decide +kernel) ⟨Nat.le_of_ble_eq_true rfl, Nat.le_of_ble_eq_true rfl⟩) ⟨fun a U g mk q => ⟨q.1, q.2.1, q.2.2.1, va_K.moved (u := U) (U := U.calling g mk a) (Vm.Alike.refl U.vm) q.2.2.2.1, NWc.same rfl q.2.2.2.2⟩, fun U hU hW => ⟨rfl, by rw [hU], by rw [hU]; exact hP, va_K.moved hW.alike hK, NWc.warm hW hNc⟩⟩ rfl rfl hl.1 rfl (lv_room (Nat.le_of_ble_eq_true rfl)) dL_law_4 ⟨Nat.le_of_ble_eq_true rfl, Nat.le_of_ble_eq_true rfl⟩) hS (fun q _ h => hFc q h) hFc (fun u7 t H1 locs ht hvm hw hB hz1 hk1 hS => ?_)
  obtain ⟨hP1, hD1⟩ := hB
  rw [ht] at hP1
  obtain ⟨hP, hD⟩ := va_join (wr := []) (w1 := wX7 cI cJ cZ x0 u7) hP hD [0] [] rfl rfl (by decide) (by decide) hk1 hFc hP1 hD1
  clear hFc hP1 hD1 hk1 hz1 hw hvm ht t
  generalize H1 = H at hP hS ⊢
  have hP : va_P D vwCl (wX7 cI cJ cZ x0 u7) H := hP
  have hD : va_D (fun q : Nat => s.heap.size ≤ q) (wX7 cI cJ cZ x0 u7) := hD
  refine lv_astore_n (lv' := [(1, .ref x0), (0, .ref b)]) hx hb dL_law_7 rfl hl (by decide) rfl (fun ls hl => ?_)
  refine va_new (ci := 8) (fs := [.int (Int32.ofInt 0), .null, .null, .int (Int32.ofInt 0), .null, .int (Int32.ofInt 0), .null, .null, .null, .null, .null, .int (Int32.ofInt 0), .int (Int32.ofInt 0), .int (Int32.ofInt 0), .long (Int64.ofInt 0), .long (Int64.ofInt 0), .long (Int64.ofInt 0), .long (Int64.ofInt 0), .long (Int64.ofInt 0), .long (Int64.ofInt 0), .null, .null, .null, .null, .null, .int (Int32.ofInt 0), .null, .null, .null, .null, .null, .null, .null, .null, .null, .int (Int32.ofInt 0), .null, .null, .null]) (C := RX8) (T := TX8) (N := 39) hx hb hTB lay_X8 tyX8 tyX8_ok hown (hTB _ cl_RL_10) (hTB _ it_RX8) (hTB _ in_RX8) hK hP hD hS hA rfl (fun j hj => by rcases (show j = 0 ∨ j = 1 ∨ j = 2 ∨ j = 3 ∨ j = 4 ∨ j = 5 ∨ j = 6 ∨ j = 7 ∨ j = 8 ∨ j = 9 ∨ j = 10 ∨ j = 11 ∨ j = 12 ∨ j = 13 ∨ j = 14 ∨ j = 15 ∨ j = 16 ∨ j = 17 ∨ j = 18 ∨ j = 19 ∨ j = 20 ∨ j = 21 ∨ j = 22 ∨ j = 23 ∨ j = 24 ∨ j = 25 ∨ j = 26 ∨ j = 27 ∨ j = 28 ∨ j = 29 ∨ j = 30 ∨ j = 31 ∨ j = 32 ∨ j = 33 ∨ j = 34 ∨ j = 35 ∨ j = 36 ∨ j = 37 ∨ j = 38 by omega) with rfl | rfl | rfl | rfl | rfl | rfl | rfl | rfl | rfl | rfl | rfl | rfl | rfl | rfl | rfl | rfl | rfl | rfl | rfl | rfl | rfl | rfl | rfl | rfl | rfl | rfl | rfl | rfl | rfl | rfl | rfl | rfl | rfl | rfl | rfl | rfl | rfl | rfl | rfl <;> rfl) (Nat.le_of_ble_eq_true rfl) (Nat.le_of_ble_eq_true rfl) dL_law_8 (fun y0 H hP hD hS => ?_)
  refine lv_dup hx hb dL_law_11 rfl ?_
  have hPc := hP.sub (ws' := [(y0, .inr (8, [.int (Int32.ofInt 0), .null, .null, .int (Int32.ofInt 0), .null, .int (Int32.ofInt 0), .null, .null, .null, .null, .null, .int (Int32.ofInt 0), .int (Int32.ofInt 0), .int (Int32.ofInt 0), .long (Int64.ofInt 0), .long (Int64.ofInt 0), .long (Int64.ofInt 0), .long (Int64.ofInt 0), .long (Int64.ofInt 0), .long (Int64.ofInt 0), .null, .null, .null, .null, .null, .int (Int32.ofInt 0), .null, .null, .null, .null, .null, .null, .null, .null, .null, .int (Int32.ofInt 0), .null, .null, .null]))]) [44] rfl
  have hFc := va_free (wc := [(y0, .inr (8, [.int (Int32.ofInt 0), .null, .null, .int (Int32.ofInt 0), .null, .int (Int32.ofInt 0), .null, .null, .null, .null, .null, .int (Int32.ofInt 0), .int (Int32.ofInt 0), .int (Int32.ofInt 0), .long (Int64.ofInt 0), .long (Int64.ofInt 0), .long (Int64.ofInt 0), .long (Int64.ofInt 0), .long (Int64.ofInt 0), .long (Int64.ofInt 0), .null, .null, .null, .null, .null, .int (Int32.ofInt 0), .null, .null, .null, .null, .null, .null, .null, .null, .null, .int (Int32.ofInt 0), .null, .null, .null]))]) hD hS hA [44] rfl
  refine va_callv (va_runI (As := []) (rest := [.ref y0]) ⟨hx, hb, hml, hown, hTB⟩ (ctor_X8 l (cI := cI) (cJ := cJ) (cZ := cZ) y0 H.size) (cwI 0 hTB (gi_tb (gi_cd (M := mX8_init) cd_X8_init)) rfl rfl rfl (hTB _ in_RX8) (hTB _ ml_RL_12) (hTB _ im_X8_init) rfl (by decide +kernel) ⟨Nat.le_of_ble_eq_true rfl, Nat.le_of_ble_eq_true rfl⟩) ⟨fun a U g mk q => ⟨q.1, q.2.1, q.2.2.1, va_K.moved (u := U) (U := U.calling g mk a) (Vm.Alike.refl U.vm) q.2.2.2⟩, fun U hU hW => ⟨rfl, by rw [hU], by rw [hU]; exact hPc, va_K.moved hW.alike hK⟩⟩ rfl rfl hl.1 rfl (lv_room (Nat.le_of_ble_eq_true rfl)) dL_law_12 ⟨Nat.le_of_ble_eq_true rfl, Nat.le_of_ble_eq_true rfl⟩) hS (fun q _ h => hFc q h) hFc (fun u8 t H1 locs ht hvm hw hB hz1 hk1 hS => ?_)
  obtain ⟨hP1, hD1⟩ := hB
  rw [ht] at hP1
  obtain ⟨hP, hD⟩ := va_join (wr := wX7 cI cJ cZ x0 u7) (w1 := wX8 cI cJ cZ y0 u8) hP hD [44] [0, 1, 2, 3, 4, 5, 6, 7, 8, 9, 10, 11, 12, 13, 14, 15, 16, 17, 18, 19, 20, 21, 22, 23, 24, 25, 26, 27, 28, 29, 30, 31, 32, 33, 34, 35, 36, 37, 38, 39, 40, 41, 42, 43] rfl rfl (by decide) (by decide) hk1 hFc hP1 hD1
  clear hPc hFc hP1 hD1 hk1 hz1 hw hvm ht t
  generalize H1 = H at hP hS ⊢
  refine lv_astore_n (lv' := [(2, .ref y0), (1, .ref x0), (0, .ref b)]) hx hb dL_law_15 rfl hl (by decide) rfl (fun ls hl => ?_)
  refine lv_iconst (v := Int32.ofInt 0) hx hb dL_law_16 (by decide) ?_
  refine lv_istore_n (lv' := [(3, .int (Int32.ofInt 0)), (2, .ref y0), (1, .ref x0), (0, .ref b)]) hx hb dL_law_17 rfl hl (by decide) rfl (fun ls hl => ?_)
  refine W.widen (k := 70) (n := 19106) (Nat.le_of_ble_eq_true rfl) (Nat.le_of_ble_eq_true rfl) ?_
  rw [← wl_start x0 y0 b u7 u8 cI cJ cZ D] at hP hD
  have hGI : GI (gAt x0 y0 b u7 u8, cI, cJ, cZ, D) := fun i j hi hj e => hD.1 i j _ _ (wl_at _ _ hi) (wl_at _ _ hj) e
  have hAA : ∀ q, AA (gAt x0 y0 b u7 u8, cI, cJ, cZ, D) s.heap.size q → s.heap.size ≤ q := by
    intro q hq
    rcases hq with ⟨i, hi, e⟩ | h
    · rw [e]
      exact hD.2 i _ (wl_at _ _ hi)
    · exact h
  have hl2 : lv_has ls 4 (cvl (gAt x0 y0 b u7 u8, cI, cJ, cZ, D) [(0, vR 70), (1, vR 0), (2, vR 44), (3, vI ((0 : Nat) : Int))]) := lv_sub hl [3, 2, 1, 0] rfl
  refine law_loop (l := l) (g := (gAt x0 y0 b u7 u8, cI, cJ, cZ, D)) hL hX hbl rfl 0 (by omega) (fun _ _ => 0) _ _ _ _ jj_0 ⟨hx, hb, hml, hown, hTB, hK, hN, hGI, hAA, ?_, ?_, ?_⟩ H _ ls hP hS hl2
  · intro pc ls H locs X v hd hrt k hP hS
    have e1 : v = 1 := by
      have := k
      injection this
    subst e1
    refine va_forget (fun q hq => hS.2.2 q hq) ?_
    exact lw_ret hx hb hr hlocks hd
  · intro pc ls H locs X v hd hrt
    cases hrt
  · intro pc ls H locs X hd hrt
    cases hrt
