def R_law : String := "SpanBenchLaw"
def lw_P (b : Addr) (xs : List Int32) (args : Array Value) (s : State) : Prop := args = #[.ref b] ∧ s.IntsAt b xs ∧ xs.length ≤ 2048 ∧ (Jvm.Cond.and given_1 narrow_1).before args s = true
def lw_Q (_ : Array Value) (s : State) (o : Outcome) (t : State) : Prop := o = .returned (some (.int 1)) ∧ Framed s o t [] 70 19106
def lw_Z (below : List Frame) (a : Array Value) (s : State) : State → Prop := fun t => ∃ o, t.status = .running ∧ Ended t below o ∧ lw_Q a s o t
/-- the law's own end, with 1 on the stack, nothing written that was there before, its room as the claim has it -/
theorem lw_ret {p : Program} {l : Launch} {e : Env} {s : State} {m : MethodId} {below : List Frame} {meth : Method} {c : Code} {b : Nat} (hx : p.tables.exec = Jvm.exec) (hb : c.code = code) (hr : meth.sig.returnType = ret) (hlocks : meth.locks = false) {pc : Nat} {H : Heap} {ls : Array Slot} (hdg : decode code pc = .ok (.ireturn, 1)) : W p l e room_1 s m #[Value.ref b] below meth c H [] 70 19106 (lw_Z below #[Value.ref b] s) (F0 m pc ls [.int 1]) := by
  intro T hT X
  obtain ⟨fs, hret, hrun, hended, hW, hframe⟩ := X.leave (v := some (.int 1)) (hlocks := hlocks) (fun h => by rw [hr] at h; cases h)
  have hmeth' : T.vm.method? m = some meth := X.method'
  refine ⟨T.setFrames fs, ?_, .returned (some (.int 1)), hrun, hended, rfl, ⟨_, rfl⟩, hW, hframe⟩
  jvm_step X.here [X.here.top, hx, hb, hdg, hmeth', hr, ret, narrow_b1]
  (try refine ⟨rfl, ?_⟩); (try refine ⟨rfl, ?_⟩)
  first | (intro acts; rw [hret _ acts rfl rfl rfl]) | rw [hret _ _ rfl rfl rfl]
  exact Steps.refl _
/-- what holds at the law's entry: the machine, the code, the tables' words (any of lw_tbl by 'hts w (by decide +kernel)'), the script of L ints xs at the cell b, what the Statement gives of the start (any of its parts by flat_of_before) -/
def lw_At (p : Program) (s : State) (m : MethodId) (meth : Method) (c : Code) (b L : Nat) (xs : Nat → Int32) : Prop :=
  p.tables.exec = Jvm.exec ∧ c.code = code ∧ meth.sig.returnType = ret ∧ c.maxLocals = 4 ∧ s.vm.findClass R_law = some m.cls ∧ (∀ w ∈ lw_tbl, w.before #[Value.ref b] s = true) ∧ va_X b L xs s s.heap ∧ b < s.heap.size ∧ meth.locks = false ∧ (Jvm.Cond.and given_1 narrow_1).before #[Value.ref b] s = true
theorem g_icmp_same {l : Launch} {g : Geo} {M : Me} {κ : Kx} {K : AV → Mm → Prop} {pc : Nat} {lv : Lv} {X : Mm} {r : List AV} {a : Int} {o : Int} {t : Nat} (hd : decode M.2.1 pc = .ok (.if_icmp .eq o, 3)) (ht : (pc : Int) + o = (t : Int)) (kt : G l g M κ K t lv r X) : G l g M κ K pc lv (vI a :: vI a :: r) X := by
  obtain ⟨p, e, s, m, args, below, meth, c, A, Q, kc, ks⟩ := κ
  intro O H locs ls hP hS hl
  exact lv_icmp_eq O.1 O.2.1 hd ht (fun _ => kt O H locs ls hP hS hl) (fun q => absurd rfl q)
theorem lg_same (x : Int64) : lg_cmp x x = 0 := by
  unfold lg_cmp
  rw [if_neg (by rw [gt_iff_lt, Int64.lt_iff_toInt_lt]; omega), if_pos rfl]
theorem g_leq_same {l : Launch} {g : Geo} {M : Me} {κ : Kx} {K : AV → Mm → Prop} {pc : Nat} {lv : Lv} {X : Mm} {r : List AV} {a : Int} {o : Int} {t : Nat} (hd : decode M.2.1 pc = .ok (.lcmp, 1)) (hd2 : decode M.2.1 (pc + 1) = .ok (.ifCond .eq o, 3)) (ht : (pc : Int) + 1 + o = (t : Int)) (kt : G l g M κ K t lv r X) : G l g M κ K pc lv (vJ a :: vJ a :: r) X := by
  obtain ⟨p, e, s, m, args, below, meth, c, A, Q, kc, ks⟩ := κ
  intro O H locs ls hP hS hl
  refine W.lcmp O.1 O.2.1 hd ?_
  rw [lg_same]
  exact lv_if_eq O.1 O.2.1 hd2 (by omega) (fun _ => kt O H locs ls hP hS hl) (fun q => absurd rfl q)
theorem g_sld {l : Launch} {g : Geo} {M : Me} {p : Program} {e : Env} {s : State} {m : MethodId} {args : Array Value} {below : List Frame} {meth : Method} {c : Code} {A : Nat → Prop} {Q : State → Prop} {kc ks : Nat} {K : AV → Mm → Prop} {pc : Nat} {lv : Lv} {X : Mm} {r : List AV} {b L : Nat} {xs : Nat → Int32} (hX : va_X b L xs s s.heap) (hbl : b < s.heap.size) (hbA : ¬ A b) (h70 : g.1 70 = b) (hL : L ≤ 2048) {i : Int} (j : Nat) (hi : i = (j : Int)) (hj : j < L) (hd : decode M.2.1 pc = .ok (.iaload, 1)) (k : G l g M (p, e, s, m, args, below, meth, c, A, Q, kc, ks) K (pc + 1) lv (vI (xs j).toInt :: r) X) : G l g M (p, e, s, m, args, below, meth, c, A, Q, kc, ks) K pc lv (vI i :: vR 70 :: r) X := by
  intro O H locs ls hP hS hl
  subst hi
  have h := k O H locs ls hP hS hl
  have e1 : cv g (vI (xs j).toInt) = Value.int (xs j) := by
    show Value.int (Int32.ofInt (xs j).toInt) = _
    rw [Int32.ofInt_toInt]
  have e2 : cv g (vR 70) = Value.ref b := by
    show Value.ref (g.1 70) = _
    rw [h70]
  rw [List.map_cons, e1] at h
  rw [List.map_cons, List.map_cons, e2]
  refine va_sld O.1 O.2.1 hX hbl hbA hS (i32_in hj (by omega)) hd ?_
  rw [i32_ix (by omega)]
  exact h
theorem g_slen {l : Launch} {g : Geo} {M : Me} {p : Program} {e : Env} {s : State} {m : MethodId} {args : Array Value} {below : List Frame} {meth : Method} {c : Code} {A : Nat → Prop} {Q : State → Prop} {kc ks : Nat} {K : AV → Mm → Prop} {pc : Nat} {lv : Lv} {X : Mm} {r : List AV} {b L : Nat} {xs : Nat → Int32} (hX : va_X b L xs s s.heap) (hbl : b < s.heap.size) (hbA : ¬ A b) (h70 : g.1 70 = b) (hd : decode M.2.1 pc = .ok (.arraylength, 1)) (k : G l g M (p, e, s, m, args, below, meth, c, A, Q, kc, ks) K (pc + 1) lv (vI (L : Int) :: r) X) : G l g M (p, e, s, m, args, below, meth, c, A, Q, kc, ks) K pc lv (vR 70 :: r) X := by
  intro O H locs ls hP hS hl
  have h := k O H locs ls hP hS hl
  have e1 : cv g (vI (L : Int)) = Value.int (Int32.ofNat L) := by
    show Value.int (Int32.ofInt (L : Int)) = _
    rw [Int32.ofInt_eq_ofNat]
  have e2 : cv g (vR 70) = Value.ref b := by
    show Value.ref (g.1 70) = _
    rw [h70]
  rw [List.map_cons, e1] at h
  rw [List.map_cons, e2]
  exact va_slen O.1 O.2.1 hX hbl hbA hS hd h
abbrev mL : Me := (yL_law, cL_law, 4, some .boolean, 8, 280)
set_option maxHeartbeats 8000000 in
set_option maxRecDepth 100000 in
theorem law_loop {l : Launch} {g : Geo} {p : Program} {e : Env} {s : State} {m : MethodId} {below : List Frame} {meth : Method} {c : Code} {b L : Nat} {xs : Nat → Int32} (hL : L ≤ 2048) (hX : va_X b L xs s s.heap) (hbl : b < s.heap.size) (h70 : g.1 70 = b) : ∀ i : Nat, i ≤ 2048 → ∀ X h1 h2 h3 h4, JJ X h1 h2 h3 h4 → G l g mL (p, e, s, m, #[Value.ref b], below, meth, c, fun q : Nat => s.heap.size ≤ q, lw_Z below #[Value.ref b] s, 70, 19106) (fun v _ => v = vI 1) 18 [(0, vR 70), (1, vR 0), (2, vR 44), (3, vI (i : Int))] [] X := by
  have hbA : ¬ (fun q : Nat => s.heap.size ≤ q) b := Nat.not_le.mpr hbl
  refine upTo 2048 ?_
  intro i hi ih X h1 h2 h3 h4 hJ
  have fin : i + 4 ≤ L → ∀ X h1 h2 h3 h4, JJ X h1 h2 h3 h4 → G l g mL (p, e, s, m, #[Value.ref b], below, meth, c, fun q : Nat => s.heap.size ≤ q, lw_Z below #[Value.ref b] s, 70, 19106) (fun v _ => v = vI 1) 668 [(0, vR 70), (1, vR 0), (2, vR 44), (3, vI (i : Int))] [] X := by
    intro hiL X h1 h2 h3 h4 hJ
    refine g_iinc rfl (by decide) dL_law_668 ?_
    refine g_goto (t := 18) dL_law_671 (by decide) ?_
    refine g_subl [(0, vR 70), (1, vR 0), (2, vR 44), (3, vI ((i + 4 : Nat) : Int))] rfl ?_
    exact ih (i + 4) (by omega) (by omega) X h1 h2 h3 h4 hJ
  refine g_iload_n rfl dL_law_18 ?_
  refine g_aload_n rfl dL_law_19 ?_
  refine g_slen hX hbl hbA h70 dL_law_20 ?_
  refine g_iconst dL_law_21 ?_
  refine g_isub dL_law_22 ?_
  refine g_icmp_gt (t := 674) dL_law_23 (by decide) (by omega) (by omega) (fun b23 => ?_) (fun b23 => ?_)
  · refine g_iconst dL_law_674 ?_
    exact g_zreturn rfl (by omega) dL_law_675 rfl
  have hiL : i + 4 ≤ L := by omega
  refine g_aload_n rfl dL_law_26 ?_
  refine g_iload_n rfl dL_law_27 ?_
  refine g_sld hX hbl hbA h70 hL i rfl (by omega) dL_law_28 ?_
  refine g_bipush (by decide) dL_law_29 ?_
  refine g_iand 5 (by decide) (by decide) dL_law_31 ?_
  obtain ⟨w, ew⟩ : ∃ w, w = (xs i).toInt % 2 ^ 5 := ⟨_, rfl⟩
  have hw : 0 ≤ w ∧ w < 32 := by
    have e5 : (2 : Int) ^ 5 = 32 := rfl
    rw [e5] at ew
    omega
  rw [← ew]
  clear ew
  rcases (show w = 0 ∨ w = 1 ∨ w = 2 ∨ w = 3 ∨ w = 4 ∨ w = 5 ∨ w = 6 ∨ w = 7 ∨ w = 8 ∨ w = 9 ∨ w = 10 ∨ w = 11 ∨ w = 12 ∨ w = 13 ∨ w = 14 ∨ w = 15 ∨ w = 16 ∨ w = 17 ∨ w = 18 ∨ w = 19 ∨ w = 20 ∨ 20 < w by omega) with sw | sw | sw | sw | sw | sw | sw | sw | sw | sw | sw | sw | sw | sw | sw | sw | sw | sw | sw | sw | sw | sw
  · rw [sw]
    refine g_tabIn (t := 132) (off := 100) dL_law_32 (by decide) (by decide) (by decide) (by decide) (by decide) ?_
    refine g_aload_n rfl dL_law_132 ?_
    refine g_aload_n rfl dL_law_133 ?_
    refine g_iload_n rfl dL_law_134 ?_
    refine g_iconst dL_law_135 ?_
    refine g_iadd dL_law_136 ?_
    refine g_sld hX hbl hbA h70 hL (i + 1) rfl (by omega) dL_law_137 ?_
    refine g_cv1 (M2 := mX7_root) (ci := 7) dL_law_138 ml_RL_13 kX7_root (by decide) (by first | rfl | assumption) (by decide) rfl (by unfold Rm; decide) (Nat.le_of_ble_eq_true rfl) (pr_root hJ (fb_rng _) (fun w2 X1 h => ?_))
    refine g_aload_n rfl dL_law_141 ?_
    refine g_aload_n rfl dL_law_142 ?_
    refine g_iload_n rfl dL_law_143 ?_
    refine g_iconst dL_law_144 ?_
    refine g_iadd dL_law_145 ?_
    refine g_sld hX hbl hbA h70 hL (i + 1) rfl (by omega) dL_law_146 ?_
    refine g_cv1 (M2 := mX8_root) (ci := 8) dL_law_147 ml_RL_17 kX8_root (by decide) (by first | rfl | assumption) (by decide) rfl (by unfold Rm; decide) (Nat.le_of_ble_eq_true rfl) (h _ (fun X2 j1 j2 j3 j4 hJ2 => ?_))
    refine g_icmp_same (t := 668) dL_law_150 (by decide) ?_
    exact fin hiL X2 _ _ _ _ hJ2
  · rw [sw]
    refine g_tabIn (t := 155) (off := 123) dL_law_32 (by decide) (by decide) (by decide) (by decide) (by decide) ?_
    refine g_aload_n rfl dL_law_155 ?_
    refine g_aload_n rfl dL_law_156 ?_
    refine g_iload_n rfl dL_law_157 ?_
    refine g_iconst dL_law_158 ?_
    refine g_iadd dL_law_159 ?_
    refine g_sld hX hbl hbA h70 hL (i + 1) rfl (by omega) dL_law_160 ?_
    refine g_aload_n rfl dL_law_161 ?_
    refine g_iload_n rfl dL_law_162 ?_
    refine g_iconst dL_law_163 ?_
    refine g_iadd dL_law_164 ?_
    refine g_sld hX hbl hbA h70 hL (i + 2) rfl (by omega) dL_law_165 ?_
    refine g_aload_n rfl dL_law_166 ?_
    refine g_iload_n rfl dL_law_167 ?_
    refine g_iconst dL_law_168 ?_
    refine g_iadd dL_law_169 ?_
    refine g_sld hX hbl hbA h70 hL (i + 3) rfl (by omega) dL_law_170 ?_
    refine g_cv3 (M2 := mX7_length) (ci := 7) dL_law_171 ml_RL_18 kX7_length (by decide) (by first | rfl | assumption) (by decide) rfl (by unfold Rm; decide) (Nat.le_of_ble_eq_true rfl) (pr_length hJ (fb_rng _) (fb_rng _) (fb_rng _) (fun w2 X1 h => ?_))
    refine g_aload_n rfl dL_law_174 ?_
    refine g_aload_n rfl dL_law_175 ?_
    refine g_iload_n rfl dL_law_176 ?_
    refine g_iconst dL_law_177 ?_
    refine g_iadd dL_law_178 ?_
    refine g_sld hX hbl hbA h70 hL (i + 1) rfl (by omega) dL_law_179 ?_
    refine g_aload_n rfl dL_law_180 ?_
    refine g_iload_n rfl dL_law_181 ?_
    refine g_iconst dL_law_182 ?_
    refine g_iadd dL_law_183 ?_
    refine g_sld hX hbl hbA h70 hL (i + 2) rfl (by omega) dL_law_184 ?_
    refine g_aload_n rfl dL_law_185 ?_
    refine g_iload_n rfl dL_law_186 ?_
    refine g_iconst dL_law_187 ?_
    refine g_iadd dL_law_188 ?_
    refine g_sld hX hbl hbA h70 hL (i + 3) rfl (by omega) dL_law_189 ?_
    refine g_cv3 (M2 := mX8_length) (ci := 8) dL_law_190 ml_RL_22 kX8_length (by decide) (by first | rfl | assumption) (by decide) rfl (by unfold Rm; decide) (Nat.le_of_ble_eq_true rfl) (h _ (fun X2 j1 j2 j3 j4 hJ2 => ?_))
    refine g_icmp_same (t := 668) dL_law_193 (by decide) ?_
    exact fin hiL X2 _ _ _ _ hJ2
  · rw [sw]
    refine g_tabIn (t := 198) (off := 166) dL_law_32 (by decide) (by decide) (by decide) (by decide) (by decide) ?_
    refine g_aload_n rfl dL_law_198 ?_
    refine g_aload_n rfl dL_law_199 ?_
    refine g_iload_n rfl dL_law_200 ?_
    refine g_iconst dL_law_201 ?_
    refine g_iadd dL_law_202 ?_
    refine g_sld hX hbl hbA h70 hL (i + 1) rfl (by omega) dL_law_203 ?_
    refine g_aload_n rfl dL_law_204 ?_
    refine g_iload_n rfl dL_law_205 ?_
    refine g_iconst dL_law_206 ?_
    refine g_iadd dL_law_207 ?_
    refine g_sld hX hbl hbA h70 hL (i + 2) rfl (by omega) dL_law_208 ?_
    refine g_cv2 (M2 := mX7_below) (ci := 7) dL_law_209 ml_RL_23 kX7_below (by decide) (by first | rfl | assumption) (by decide) rfl (by unfold Rm; decide) (Nat.le_of_ble_eq_true rfl) (pr_below hJ (fb_rng _) (fb_rng _) (fun w2 X1 h => ?_))
    refine g_aload_n rfl dL_law_212 ?_
    refine g_aload_n rfl dL_law_213 ?_
    refine g_iload_n rfl dL_law_214 ?_
    refine g_iconst dL_law_215 ?_
    refine g_iadd dL_law_216 ?_
    refine g_sld hX hbl hbA h70 hL (i + 1) rfl (by omega) dL_law_217 ?_
    refine g_aload_n rfl dL_law_218 ?_
    refine g_iload_n rfl dL_law_219 ?_
    refine g_iconst dL_law_220 ?_
    refine g_iadd dL_law_221 ?_
    refine g_sld hX hbl hbA h70 hL (i + 2) rfl (by omega) dL_law_222 ?_
    refine g_cv2 (M2 := mX8_below) (ci := 8) dL_law_223 ml_RL_27 kX8_below (by decide) (by first | rfl | assumption) (by decide) rfl (by unfold Rm; decide) (Nat.le_of_ble_eq_true rfl) (h _ (fun X2 j1 j2 j3 j4 hJ2 => ?_))
    refine g_icmp_same (t := 668) dL_law_226 (by decide) ?_
    exact fin hiL X2 _ _ _ _ hJ2
  · rw [sw]
    refine g_tabIn (t := 231) (off := 199) dL_law_32 (by decide) (by decide) (by decide) (by decide) (by decide) ?_
    refine g_aload_n rfl dL_law_231 ?_
    refine g_cv0 (M2 := mX7_lay) (ci := 7) dL_law_232 ml_RL_28 kX7_lay (by decide) (by first | rfl | assumption) (by decide) rfl (by unfold Rm; decide) (Nat.le_of_ble_eq_true rfl) (pr_lay hJ (fun w2 X1 h => ?_))
    refine g_aload_n rfl dL_law_235 ?_
    refine g_cv0 (M2 := mX8_lay) (ci := 8) dL_law_236 ml_RL_32 kX8_lay (by decide) (by first | rfl | assumption) (by decide) rfl (by unfold Rm; decide) (Nat.le_of_ble_eq_true rfl) (h _ (fun X2 j1 j2 j3 j4 hJ2 => ?_))
    refine g_icmp_same (t := 668) dL_law_239 (by decide) ?_
    exact fin hiL X2 _ _ _ _ hJ2
  · rw [sw]
    refine g_tabIn (t := 244) (off := 212) dL_law_32 (by decide) (by decide) (by decide) (by decide) (by decide) ?_
    refine g_aload_n rfl dL_law_244 ?_
    refine g_aload_n rfl dL_law_245 ?_
    refine g_iload_n rfl dL_law_246 ?_
    refine g_iconst dL_law_247 ?_
    refine g_iadd dL_law_248 ?_
    refine g_sld hX hbl hbA h70 hL (i + 1) rfl (by omega) dL_law_249 ?_
    refine g_cv1 (M2 := mX7_of) (ci := 7) dL_law_250 ml_RL_33 kX7_of (by decide) (by first | rfl | assumption) (by decide) rfl (by unfold Rm; decide) (Nat.le_of_ble_eq_true rfl) (pr_of hJ (fb_rng _) (fun w2 X1 h => ?_))
    refine g_aload_n rfl dL_law_253 ?_
    refine g_aload_n rfl dL_law_254 ?_
    refine g_iload_n rfl dL_law_255 ?_
    refine g_iconst dL_law_256 ?_
    refine g_iadd dL_law_257 ?_
    refine g_sld hX hbl hbA h70 hL (i + 1) rfl (by omega) dL_law_258 ?_
    refine g_cv1 (M2 := mX8_of) (ci := 8) dL_law_259 ml_RL_37 kX8_of (by decide) (by first | rfl | assumption) (by decide) rfl (by unfold Rm; decide) (Nat.le_of_ble_eq_true rfl) (h _ (fun X2 j1 j2 j3 j4 hJ2 => ?_))
    refine g_icmp_same (t := 668) dL_law_262 (by decide) ?_
    exact fin hiL X2 _ _ _ _ hJ2
  · rw [sw]
    refine g_tabIn (t := 267) (off := 235) dL_law_32 (by decide) (by decide) (by decide) (by decide) (by decide) ?_
    refine g_aload_n rfl dL_law_267 ?_
    refine g_aload_n rfl dL_law_268 ?_
    refine g_iload_n rfl dL_law_269 ?_
    refine g_iconst dL_law_270 ?_
    refine g_iadd dL_law_271 ?_
    refine g_sld hX hbl hbA h70 hL (i + 1) rfl (by omega) dL_law_272 ?_
    refine g_aload_n rfl dL_law_273 ?_
    refine g_iload_n rfl dL_law_274 ?_
    refine g_iconst dL_law_275 ?_
    refine g_iadd dL_law_276 ?_
    refine g_sld hX hbl hbA h70 hL (i + 2) rfl (by omega) dL_law_277 ?_
    refine g_cv2 (M2 := mX7_spans) (ci := 7) dL_law_278 ml_RL_38 kX7_spans (by decide) (by first | rfl | assumption) (by decide) rfl (by unfold Rm; decide) (Nat.le_of_ble_eq_true rfl) (pr_spans hJ (fb_rng _) (fb_rng _) (fun w2 X1 h => ?_))
    refine g_aload_n rfl dL_law_281 ?_
    refine g_aload_n rfl dL_law_282 ?_
    refine g_iload_n rfl dL_law_283 ?_
    refine g_iconst dL_law_284 ?_
    refine g_iadd dL_law_285 ?_
    refine g_sld hX hbl hbA h70 hL (i + 1) rfl (by omega) dL_law_286 ?_
    refine g_aload_n rfl dL_law_287 ?_
    refine g_iload_n rfl dL_law_288 ?_
    refine g_iconst dL_law_289 ?_
    refine g_iadd dL_law_290 ?_
    refine g_sld hX hbl hbA h70 hL (i + 2) rfl (by omega) dL_law_291 ?_
    refine g_cv2 (M2 := mX8_spans) (ci := 8) dL_law_292 ml_RL_42 kX8_spans (by decide) (by first | rfl | assumption) (by decide) rfl (by unfold Rm; decide) (Nat.le_of_ble_eq_true rfl) (h _ (fun X2 j1 j2 j3 j4 hJ2 => ?_))
    refine g_leq_same (t := 668) dL_law_295 dL_law_296 (by decide) ?_
    exact fin hiL X2 _ _ _ _ hJ2
  · rw [sw]
    refine g_tabIn (t := 301) (off := 269) dL_law_32 (by decide) (by decide) (by decide) (by decide) (by decide) ?_
    refine g_aload_n rfl dL_law_301 ?_
    refine g_aload_n rfl dL_law_302 ?_
    refine g_iload_n rfl dL_law_303 ?_
    refine g_iconst dL_law_304 ?_
    refine g_iadd dL_law_305 ?_
    refine g_sld hX hbl hbA h70 hL (i + 1) rfl (by omega) dL_law_306 ?_
    refine g_aload_n rfl dL_law_307 ?_
    refine g_iload_n rfl dL_law_308 ?_
    refine g_iconst dL_law_309 ?_
    refine g_iadd dL_law_310 ?_
    refine g_sld hX hbl hbA h70 hL (i + 2) rfl (by omega) dL_law_311 ?_
    refine g_cv2 (M2 := mX7_order) (ci := 7) dL_law_312 ml_RL_43 kX7_order (by decide) (by first | rfl | assumption) (by decide) rfl (by unfold Rm; decide) (Nat.le_of_ble_eq_true rfl) (pr_order hJ (fb_rng _) (fb_rng _) (fun w2 X1 h => ?_))
    refine g_aload_n rfl dL_law_315 ?_
    refine g_aload_n rfl dL_law_316 ?_
    refine g_iload_n rfl dL_law_317 ?_
    refine g_iconst dL_law_318 ?_
    refine g_iadd dL_law_319 ?_
    refine g_sld hX hbl hbA h70 hL (i + 1) rfl (by omega) dL_law_320 ?_
    refine g_aload_n rfl dL_law_321 ?_
    refine g_iload_n rfl dL_law_322 ?_
    refine g_iconst dL_law_323 ?_
    refine g_iadd dL_law_324 ?_
    refine g_sld hX hbl hbA h70 hL (i + 2) rfl (by omega) dL_law_325 ?_
    refine g_cv2 (M2 := mX8_order) (ci := 8) dL_law_326 ml_RL_47 kX8_order (by decide) (by first | rfl | assumption) (by decide) rfl (by unfold Rm; decide) (Nat.le_of_ble_eq_true rfl) (h _ (fun X2 j1 j2 j3 j4 hJ2 => ?_))
    refine g_icmp_same (t := 668) dL_law_329 (by decide) ?_
    exact fin hiL X2 _ _ _ _ hJ2
  · rw [sw]
    refine g_tabIn (t := 334) (off := 302) dL_law_32 (by decide) (by decide) (by decide) (by decide) (by decide) ?_
    refine g_aload_n rfl dL_law_334 ?_
    refine g_aload_n rfl dL_law_335 ?_
    refine g_iload_n rfl dL_law_336 ?_
    refine g_iconst dL_law_337 ?_
    refine g_iadd dL_law_338 ?_
    refine g_sld hX hbl hbA h70 hL (i + 1) rfl (by omega) dL_law_339 ?_
    refine g_aload_n rfl dL_law_340 ?_
    refine g_iload_n rfl dL_law_341 ?_
    refine g_iconst dL_law_342 ?_
    refine g_iadd dL_law_343 ?_
    refine g_sld hX hbl hbA h70 hL (i + 2) rfl (by omega) dL_law_344 ?_
    refine g_cv2 (M2 := mX7_point) (ci := 7) dL_law_345 ml_RL_48 kX7_point (by decide) (by first | rfl | assumption) (by decide) rfl (by unfold Rm; decide) (Nat.le_of_ble_eq_true rfl) (pr_point hJ (fb_rng _) (fb_rng _) (fun w2 X1 h => ?_))
    refine g_aload_n rfl dL_law_348 ?_
    refine g_aload_n rfl dL_law_349 ?_
    refine g_iload_n rfl dL_law_350 ?_
    refine g_iconst dL_law_351 ?_
    refine g_iadd dL_law_352 ?_
    refine g_sld hX hbl hbA h70 hL (i + 1) rfl (by omega) dL_law_353 ?_
    refine g_aload_n rfl dL_law_354 ?_
    refine g_iload_n rfl dL_law_355 ?_
    refine g_iconst dL_law_356 ?_
    refine g_iadd dL_law_357 ?_
    refine g_sld hX hbl hbA h70 hL (i + 2) rfl (by omega) dL_law_358 ?_
    refine g_cv2 (M2 := mX8_point) (ci := 8) dL_law_359 ml_RL_51 kX8_point (by decide) (by first | rfl | assumption) (by decide) rfl (by unfold Rm; decide) (Nat.le_of_ble_eq_true rfl) (h _ (fun X2 j1 j2 j3 j4 hJ2 => ?_))
    refine g_icmp_same (t := 668) dL_law_362 (by decide) ?_
    exact fin hiL X2 _ _ _ _ hJ2
  · rw [sw]
    refine g_tabIn (t := 367) (off := 335) dL_law_32 (by decide) (by decide) (by decide) (by decide) (by decide) ?_
    refine g_aload_n rfl dL_law_367 ?_
    refine g_aload_n rfl dL_law_368 ?_
    refine g_iload_n rfl dL_law_369 ?_
    refine g_iconst dL_law_370 ?_
    refine g_iadd dL_law_371 ?_
    refine g_sld hX hbl hbA h70 hL (i + 1) rfl (by omega) dL_law_372 ?_
    refine g_cv1 (M2 := mX7_move) (ci := 7) dL_law_373 ml_RL_52 kX7_move (by decide) (by first | rfl | assumption) (by decide) rfl (by unfold Rm; decide) (Nat.le_of_ble_eq_true rfl) (pr_move hJ (fb_rng _) (fun w2 X1 h => ?_))
    refine g_aload_n rfl dL_law_376 ?_
    refine g_aload_n rfl dL_law_377 ?_
    refine g_iload_n rfl dL_law_378 ?_
    refine g_iconst dL_law_379 ?_
    refine g_iadd dL_law_380 ?_
    refine g_sld hX hbl hbA h70 hL (i + 1) rfl (by omega) dL_law_381 ?_
    refine g_cv1 (M2 := mX8_move) (ci := 8) dL_law_382 ml_RL_55 kX8_move (by decide) (by first | rfl | assumption) (by decide) rfl (by unfold Rm; decide) (Nat.le_of_ble_eq_true rfl) (h _ (fun X2 j1 j2 j3 j4 hJ2 => ?_))
    refine g_icmp_same (t := 668) dL_law_385 (by decide) ?_
    exact fin hiL X2 _ _ _ _ hJ2
  · rw [sw]
    refine g_tabIn (t := 390) (off := 358) dL_law_32 (by decide) (by decide) (by decide) (by decide) (by decide) ?_
    refine g_aload_n rfl dL_law_390 ?_
    refine g_aload_n rfl dL_law_391 ?_
    refine g_iload_n rfl dL_law_392 ?_
    refine g_iconst dL_law_393 ?_
    refine g_iadd dL_law_394 ?_
    refine g_sld hX hbl hbA h70 hL (i + 1) rfl (by omega) dL_law_395 ?_
    refine g_cv1 (M2 := mX7_where) (ci := 7) dL_law_396 ml_RL_56 kX7_where (by decide) (by first | rfl | assumption) (by decide) rfl (by unfold Rm; decide) (Nat.le_of_ble_eq_true rfl) (pr_where hJ (fb_rng _) (fun w2 X1 h => ?_))
    refine g_aload_n rfl dL_law_399 ?_
    refine g_aload_n rfl dL_law_400 ?_
    refine g_iload_n rfl dL_law_401 ?_
    refine g_iconst dL_law_402 ?_
    refine g_iadd dL_law_403 ?_
    refine g_sld hX hbl hbA h70 hL (i + 1) rfl (by omega) dL_law_404 ?_
    refine g_cv1 (M2 := mX8_where) (ci := 8) dL_law_405 ml_RL_60 kX8_where (by decide) (by first | rfl | assumption) (by decide) rfl (by unfold Rm; decide) (Nat.le_of_ble_eq_true rfl) (h _ (fun X2 j1 j2 j3 j4 hJ2 => ?_))
    refine g_leq_same (t := 668) dL_law_408 dL_law_409 (by decide) ?_
    exact fin hiL X2 _ _ _ _ hJ2
  · rw [sw]
    refine g_tabIn (t := 414) (off := 382) dL_law_32 (by decide) (by decide) (by decide) (by decide) (by decide) ?_
    refine g_aload_n rfl dL_law_414 ?_
    refine g_aload_n rfl dL_law_415 ?_
    refine g_iload_n rfl dL_law_416 ?_
    refine g_iconst dL_law_417 ?_
    refine g_iadd dL_law_418 ?_
    refine g_sld hX hbl hbA h70 hL (i + 1) rfl (by omega) dL_law_419 ?_
    refine g_aload_n rfl dL_law_420 ?_
    refine g_iload_n rfl dL_law_421 ?_
    refine g_iconst dL_law_422 ?_
    refine g_iadd dL_law_423 ?_
    refine g_sld hX hbl hbA h70 hL (i + 2) rfl (by omega) dL_law_424 ?_
    refine g_cv2 (M2 := mX7_back) (ci := 7) dL_law_425 ml_RL_61 kX7_back (by decide) (by first | rfl | assumption) (by decide) rfl (by unfold Rm; decide) (Nat.le_of_ble_eq_true rfl) (pr_back hJ (fb_rng _) (fb_rng _) (fun w2 X1 h => ?_))
    refine g_aload_n rfl dL_law_428 ?_
    refine g_aload_n rfl dL_law_429 ?_
    refine g_iload_n rfl dL_law_430 ?_
    refine g_iconst dL_law_431 ?_
    refine g_iadd dL_law_432 ?_
    refine g_sld hX hbl hbA h70 hL (i + 1) rfl (by omega) dL_law_433 ?_
    refine g_aload_n rfl dL_law_434 ?_
    refine g_iload_n rfl dL_law_435 ?_
    refine g_iconst dL_law_436 ?_
    refine g_iadd dL_law_437 ?_
    refine g_sld hX hbl hbA h70 hL (i + 2) rfl (by omega) dL_law_438 ?_
    refine g_cv2 (M2 := mX8_back) (ci := 8) dL_law_439 ml_RL_64 kX8_back (by decide) (by first | rfl | assumption) (by decide) rfl (by unfold Rm; decide) (Nat.le_of_ble_eq_true rfl) (h _ (fun X2 j1 j2 j3 j4 hJ2 => ?_))
    refine g_icmp_same (t := 668) dL_law_442 (by decide) ?_
    exact fin hiL X2 _ _ _ _ hJ2
  · rw [sw]
    refine g_tabIn (t := 447) (off := 415) dL_law_32 (by decide) (by decide) (by decide) (by decide) (by decide) ?_
    refine g_aload_n rfl dL_law_447 ?_
    refine g_aload_n rfl dL_law_448 ?_
    refine g_iload_n rfl dL_law_449 ?_
    refine g_iconst dL_law_450 ?_
    refine g_iadd dL_law_451 ?_
    refine g_sld hX hbl hbA h70 hL (i + 1) rfl (by omega) dL_law_452 ?_
    refine g_aload_n rfl dL_law_453 ?_
    refine g_iload_n rfl dL_law_454 ?_
    refine g_iconst dL_law_455 ?_
    refine g_iadd dL_law_456 ?_
    refine g_sld hX hbl hbA h70 hL (i + 2) rfl (by omega) dL_law_457 ?_
    refine g_cv2 (M2 := mX7_visits) (ci := 7) dL_law_458 ml_RL_65 kX7_visits (by decide) (by first | rfl | assumption) (by decide) rfl (by unfold Rm; decide) (Nat.le_of_ble_eq_true rfl) (pr_visits hJ (fb_rng _) (fb_rng _) (fun w2 X1 h => ?_))
    refine g_aload_n rfl dL_law_461 ?_
    refine g_aload_n rfl dL_law_462 ?_
    refine g_iload_n rfl dL_law_463 ?_
    refine g_iconst dL_law_464 ?_
    refine g_iadd dL_law_465 ?_
    refine g_sld hX hbl hbA h70 hL (i + 1) rfl (by omega) dL_law_466 ?_
    refine g_aload_n rfl dL_law_467 ?_
    refine g_iload_n rfl dL_law_468 ?_
    refine g_iconst dL_law_469 ?_
    refine g_iadd dL_law_470 ?_
    refine g_sld hX hbl hbA h70 hL (i + 2) rfl (by omega) dL_law_471 ?_
    refine g_cv2 (M2 := mX8_visits) (ci := 8) dL_law_472 ml_RL_68 kX8_visits (by decide) (by first | rfl | assumption) (by decide) rfl (by unfold Rm; decide) (Nat.le_of_ble_eq_true rfl) (h _ (fun X2 j1 j2 j3 j4 hJ2 => ?_))
    refine g_icmp_same (t := 668) dL_law_475 (by decide) ?_
    exact fin hiL X2 _ _ _ _ hJ2
  · rw [sw]
    refine g_tabIn (t := 480) (off := 448) dL_law_32 (by decide) (by decide) (by decide) (by decide) (by decide) ?_
    refine g_aload_n rfl dL_law_480 ?_
    refine g_cv0 (M2 := mX7_step) (ci := 7) dL_law_481 ml_RL_69 kX7_step (by decide) (by first | rfl | assumption) (by decide) rfl (by unfold Rm; decide) (Nat.le_of_ble_eq_true rfl) (pr_step hJ (fun w2 X1 h => ?_))
    refine g_aload_n rfl dL_law_484 ?_
    refine g_cv0 (M2 := mX8_step) (ci := 8) dL_law_485 ml_RL_72 kX8_step (by decide) (by first | rfl | assumption) (by decide) rfl (by unfold Rm; decide) (Nat.le_of_ble_eq_true rfl) (h _ (fun X2 j1 j2 j3 j4 hJ2 => ?_))
    refine g_icmp_same (t := 668) dL_law_488 (by decide) ?_
    exact fin hiL X2 _ _ _ _ hJ2
  · rw [sw]
    refine g_tabIn (t := 493) (off := 461) dL_law_32 (by decide) (by decide) (by decide) (by decide) (by decide) ?_
    refine g_aload_n rfl dL_law_493 ?_
    refine g_aload_n rfl dL_law_494 ?_
    refine g_iload_n rfl dL_law_495 ?_
    refine g_iconst dL_law_496 ?_
    refine g_iadd dL_law_497 ?_
    refine g_sld hX hbl hbA h70 hL (i + 1) rfl (by omega) dL_law_498 ?_
    refine g_cv1 (M2 := mX7_steps) (ci := 7) dL_law_499 ml_RL_73 kX7_steps (by decide) (by first | rfl | assumption) (by decide) rfl (by unfold Rm; decide) (Nat.le_of_ble_eq_true rfl) (pr_steps hJ (fb_rng _) (fun w2 X1 h => ?_))
    refine g_aload_n rfl dL_law_502 ?_
    refine g_aload_n rfl dL_law_503 ?_
    refine g_iload_n rfl dL_law_504 ?_
    refine g_iconst dL_law_505 ?_
    refine g_iadd dL_law_506 ?_
    refine g_sld hX hbl hbA h70 hL (i + 1) rfl (by omega) dL_law_507 ?_
    refine g_cv1 (M2 := mX8_steps) (ci := 8) dL_law_508 ml_RL_76 kX8_steps (by decide) (by first | rfl | assumption) (by decide) rfl (by unfold Rm; decide) (Nat.le_of_ble_eq_true rfl) (h _ (fun X2 j1 j2 j3 j4 hJ2 => ?_))
    refine g_icmp_same (t := 668) dL_law_511 (by decide) ?_
    exact fin hiL X2 _ _ _ _ hJ2
  · rw [sw]
    refine g_tabIn (t := 516) (off := 484) dL_law_32 (by decide) (by decide) (by decide) (by decide) (by decide) ?_
    refine g_aload_n rfl dL_law_516 ?_
    refine g_aload_n rfl dL_law_517 ?_
    refine g_iload_n rfl dL_law_518 ?_
    refine g_iconst dL_law_519 ?_
    refine g_iadd dL_law_520 ?_
    refine g_sld hX hbl hbA h70 hL (i + 1) rfl (by omega) dL_law_521 ?_
    refine g_aload_n rfl dL_law_522 ?_
    refine g_iload_n rfl dL_law_523 ?_
    refine g_iconst dL_law_524 ?_
    refine g_iadd dL_law_525 ?_
    refine g_sld hX hbl hbA h70 hL (i + 2) rfl (by omega) dL_law_526 ?_
    refine g_cv2 (M2 := mX7_table) (ci := 7) dL_law_527 ml_RL_77 kX7_table (by decide) (by first | rfl | assumption) (by decide) rfl (by unfold Rm; decide) (Nat.le_of_ble_eq_true rfl) (pr_table hJ (fb_rng _) (fb_rng _) (fun w2 X1 h => ?_))
    refine g_aload_n rfl dL_law_530 ?_
    refine g_aload_n rfl dL_law_531 ?_
    refine g_iload_n rfl dL_law_532 ?_
    refine g_iconst dL_law_533 ?_
    refine g_iadd dL_law_534 ?_
    refine g_sld hX hbl hbA h70 hL (i + 1) rfl (by omega) dL_law_535 ?_
    refine g_aload_n rfl dL_law_536 ?_
    refine g_iload_n rfl dL_law_537 ?_
    refine g_iconst dL_law_538 ?_
    refine g_iadd dL_law_539 ?_
    refine g_sld hX hbl hbA h70 hL (i + 2) rfl (by omega) dL_law_540 ?_
    refine g_cv2 (M2 := mX8_table) (ci := 8) dL_law_541 ml_RL_80 kX8_table (by decide) (by first | rfl | assumption) (by decide) rfl (by unfold Rm; decide) (Nat.le_of_ble_eq_true rfl) (h _ (fun X2 j1 j2 j3 j4 hJ2 => ?_))
    refine g_leq_same (t := 668) dL_law_544 dL_law_545 (by decide) ?_
    exact fin hiL X2 _ _ _ _ hJ2
  · rw [sw]
    refine g_tabIn (t := 550) (off := 518) dL_law_32 (by decide) (by decide) (by decide) (by decide) (by decide) ?_
    refine g_aload_n rfl dL_law_550 ?_
    refine g_cv0 (M2 := mX7_loop) (ci := 7) dL_law_551 ml_RL_81 kX7_loop (by decide) (by first | rfl | assumption) (by decide) rfl (by unfold Rm; decide) (Nat.le_of_ble_eq_true rfl) (pr_loop hJ (fun w2 X1 h => ?_))
    refine g_aload_n rfl dL_law_554 ?_
    refine g_cv0 (M2 := mX8_loop) (ci := 8) dL_law_555 ml_RL_84 kX8_loop (by decide) (by first | rfl | assumption) (by decide) rfl (by unfold Rm; decide) (Nat.le_of_ble_eq_true rfl) (h _ (fun X2 j1 j2 j3 j4 hJ2 => ?_))
    refine g_icmp_same (t := 668) dL_law_558 (by decide) ?_
    exact fin hiL X2 _ _ _ _ hJ2
  · rw [sw]
    refine g_tabIn (t := 563) (off := 531) dL_law_32 (by decide) (by decide) (by decide) (by decide) (by decide) ?_
    refine g_aload_n rfl dL_law_563 ?_
    refine g_cv0 (M2 := mX7_rounds) (ci := 7) dL_law_564 ml_RL_85 kX7_rounds (by decide) (by first | rfl | assumption) (by decide) rfl (by unfold Rm; decide) (Nat.le_of_ble_eq_true rfl) (pr_rounds hJ (fun w2 X1 h => ?_))
    refine g_aload_n rfl dL_law_567 ?_
    refine g_cv0 (M2 := mX8_rounds) (ci := 8) dL_law_568 ml_RL_88 kX8_rounds (by decide) (by first | rfl | assumption) (by decide) rfl (by unfold Rm; decide) (Nat.le_of_ble_eq_true rfl) (h _ (fun X2 j1 j2 j3 j4 hJ2 => ?_))
    refine g_icmp_same (t := 668) dL_law_571 (by decide) ?_
    exact fin hiL X2 _ _ _ _ hJ2
  · rw [sw]
    refine g_tabIn (t := 576) (off := 544) dL_law_32 (by decide) (by decide) (by decide) (by decide) (by decide) ?_
    refine g_aload_n rfl dL_law_576 ?_
    refine g_aload_n rfl dL_law_577 ?_
    refine g_iload_n rfl dL_law_578 ?_
    refine g_iconst dL_law_579 ?_
    refine g_iadd dL_law_580 ?_
    refine g_sld hX hbl hbA h70 hL (i + 1) rfl (by omega) dL_law_581 ?_
    refine g_aload_n rfl dL_law_582 ?_
    refine g_iload_n rfl dL_law_583 ?_
    refine g_iconst dL_law_584 ?_
    refine g_iadd dL_law_585 ?_
    refine g_sld hX hbl hbA h70 hL (i + 2) rfl (by omega) dL_law_586 ?_
    refine g_cv2 (M2 := mX7_round) (ci := 7) dL_law_587 ml_RL_89 kX7_round (by decide) (by first | rfl | assumption) (by decide) rfl (by unfold Rm; decide) (Nat.le_of_ble_eq_true rfl) (pr_round hJ (fb_rng _) (fb_rng _) (fun w2 X1 h => ?_))
    refine g_aload_n rfl dL_law_590 ?_
    refine g_aload_n rfl dL_law_591 ?_
    refine g_iload_n rfl dL_law_592 ?_
    refine g_iconst dL_law_593 ?_
    refine g_iadd dL_law_594 ?_
    refine g_sld hX hbl hbA h70 hL (i + 1) rfl (by omega) dL_law_595 ?_
    refine g_aload_n rfl dL_law_596 ?_
    refine g_iload_n rfl dL_law_597 ?_
    refine g_iconst dL_law_598 ?_
    refine g_iadd dL_law_599 ?_
    refine g_sld hX hbl hbA h70 hL (i + 2) rfl (by omega) dL_law_600 ?_
    refine g_cv2 (M2 := mX8_round) (ci := 8) dL_law_601 ml_RL_92 kX8_round (by decide) (by first | rfl | assumption) (by decide) rfl (by unfold Rm; decide) (Nat.le_of_ble_eq_true rfl) (h _ (fun X2 j1 j2 j3 j4 hJ2 => ?_))
    refine g_icmp_same (t := 668) dL_law_604 (by decide) ?_
    exact fin hiL X2 _ _ _ _ hJ2
  · rw [sw]
    refine g_tabIn (t := 609) (off := 577) dL_law_32 (by decide) (by decide) (by decide) (by decide) (by decide) ?_
    refine g_aload_n rfl dL_law_609 ?_
    refine g_aload_n rfl dL_law_610 ?_
    refine g_iload_n rfl dL_law_611 ?_
    refine g_iconst dL_law_612 ?_
    refine g_iadd dL_law_613 ?_
    refine g_sld hX hbl hbA h70 hL (i + 1) rfl (by omega) dL_law_614 ?_
    refine g_cv1 (M2 := mX7_words) (ci := 7) dL_law_615 ml_RL_93 kX7_words (by decide) (by first | rfl | assumption) (by decide) rfl (by unfold Rm; decide) (Nat.le_of_ble_eq_true rfl) (pr_words hJ (fb_rng _) (fun w2 X1 h => ?_))
    refine g_aload_n rfl dL_law_618 ?_
    refine g_aload_n rfl dL_law_619 ?_
    refine g_iload_n rfl dL_law_620 ?_
    refine g_iconst dL_law_621 ?_
    refine g_iadd dL_law_622 ?_
    refine g_sld hX hbl hbA h70 hL (i + 1) rfl (by omega) dL_law_623 ?_
    refine g_cv1 (M2 := mX8_words) (ci := 8) dL_law_624 ml_RL_96 kX8_words (by decide) (by first | rfl | assumption) (by decide) rfl (by unfold Rm; decide) (Nat.le_of_ble_eq_true rfl) (h _ (fun X2 j1 j2 j3 j4 hJ2 => ?_))
    refine g_icmp_same (t := 668) dL_law_627 (by decide) ?_
    exact fin hiL X2 _ _ _ _ hJ2
  · rw [sw]
    refine g_tabIn (t := 632) (off := 600) dL_law_32 (by decide) (by decide) (by decide) (by decide) (by decide) ?_
    refine g_aload_n rfl dL_law_632 ?_
    refine g_cv0 (M2 := mX7_classes) (ci := 7) dL_law_633 ml_RL_97 kX7_classes (by decide) (by first | rfl | assumption) (by decide) rfl (by unfold Rm; decide) (Nat.le_of_ble_eq_true rfl) (pr_classes hJ (fun w2 X1 h => ?_))
    refine g_aload_n rfl dL_law_636 ?_
    refine g_cv0 (M2 := mX8_classes) (ci := 8) dL_law_637 ml_RL_100 kX8_classes (by decide) (by first | rfl | assumption) (by decide) rfl (by unfold Rm; decide) (Nat.le_of_ble_eq_true rfl) (h _ (fun X2 j1 j2 j3 j4 hJ2 => ?_))
    refine g_icmp_same (t := 668) dL_law_640 (by decide) ?_
    exact fin hiL X2 _ _ _ _ hJ2
  · rw [sw]
    refine g_tabIn (t := 645) (off := 613) dL_law_32 (by decide) (by decide) (by decide) (by decide) (by decide) ?_
    refine g_aload_n rfl dL_law_645 ?_
    refine g_aload_n rfl dL_law_646 ?_
    refine g_iload_n rfl dL_law_647 ?_
    refine g_iconst dL_law_648 ?_
    refine g_iadd dL_law_649 ?_
    refine g_sld hX hbl hbA h70 hL (i + 1) rfl (by omega) dL_law_650 ?_
    refine g_cv1 (M2 := mX7_ground) (ci := 7) dL_law_651 ml_RL_101 kX7_ground (by decide) (by first | rfl | assumption) (by decide) rfl (by unfold Rm; decide) (Nat.le_of_ble_eq_true rfl) (pr_ground hJ (fb_rng _) (fun w2 X1 h => ?_))
    refine g_aload_n rfl dL_law_654 ?_
    refine g_aload_n rfl dL_law_655 ?_
    refine g_iload_n rfl dL_law_656 ?_
    refine g_iconst dL_law_657 ?_
    refine g_iadd dL_law_658 ?_
    refine g_sld hX hbl hbA h70 hL (i + 1) rfl (by omega) dL_law_659 ?_
    refine g_cv1 (M2 := mX8_ground) (ci := 8) dL_law_660 ml_RL_104 kX8_ground (by decide) (by first | rfl | assumption) (by decide) rfl (by unfold Rm; decide) (Nat.le_of_ble_eq_true rfl) (h _ (fun X2 j1 j2 j3 j4 hJ2 => ?_))
    refine g_icmp_same (t := 668) dL_law_663 (by decide) ?_
    exact fin hiL X2 _ _ _ _ hJ2
  · refine g_tabOut (t := 668) dL_law_32 (by omega) (Or.inr sw) (by decide) ?_
    exact fin hiL X _ _ _ _ hJ
