def Sv (X : Mm) (n k q : Nat) (Y : Mm) : Prop := (∀ i, i < k → Y 53 i = X 48 i ∧ Y 54 i = X 49 i ∧ Y 55 i = X 50 i ∧ Y 56 i = X 51 i) ∧ (∀ j, j < q → Y 57 j = X 52 j) ∧ ∀ d j, (d < 53 ∨ 57 < d) → Y d j = X d j
theorem sv_s {X Y : Mm} {n k : Nat} (h : Sv X n k 0 Y) : Sv X n (k + 1) 0 (st2 (st2 (st2 (st2 Y 53 k (Y 48 k)) 54 k (Y 49 k)) 55 k (Y 50 k)) 56 k (Y 51 k)) := by
  obtain ⟨e1, e2, e3⟩ := h
  refine ⟨fun i hi => ?_, fun j hj => by omega, fun d j hd => ?_⟩
  · rcases Nat.lt_or_ge i k with z | z
    · have q : i ≠ k := by omega
      simp [st2, q]
      exact e1 i z
    · obtain rfl : i = k := by omega
      simp [st2]
      exact ⟨e3 48 i (by omega), e3 49 i (by omega), e3 50 i (by omega), e3 51 i (by omega)⟩
  · have z1 : d ≠ 53 := by omega
    have z2 : d ≠ 54 := by omega
    have z3 : d ≠ 55 := by omega
    have z4 : d ≠ 56 := by omega
    simp only [st2, if_neg z1, if_neg z2, if_neg z3, if_neg z4]
    exact e3 d j hd
theorem sv_t {X Y : Mm} {n k q : Nat} (h : Sv X n k q Y) : Sv X n k (q + 1) (st2 Y 57 q (Y 52 q)) := by
  obtain ⟨e1, e2, e3⟩ := h
  refine ⟨fun i hi => e1 i hi, fun j hj => ?_, fun d j hd => ?_⟩
  · rcases Nat.lt_or_ge j q with z | z
    · have z2 : j ≠ q := by omega
      simp [st2, z2]
      exact e2 j z
    · obtain rfl : j = q := by omega
      simp [st2]
      exact e3 52 j (by omega)
  · have z1 : d ≠ 57 := by omega
    simp only [st2, if_neg z1]
    exact e3 d j hd
def Lq (X : Mm) (n k q : Nat) (Y : Mm) : Prop := (∀ i, i < k → Y 48 i = X 48 i ∧ Y 49 i = X 49 i ∧ Y 50 i = X 50 i ∧ Y 51 i = X 51 i) ∧ (∀ i, i < n → Y 53 i = X 48 i ∧ Y 54 i = X 49 i ∧ Y 55 i = X 50 i ∧ Y 56 i = X 51 i) ∧ (∀ j, j < q → Y 52 j = X 52 j) ∧ (∀ j, j < 64 → Y 57 j = X 52 j) ∧ (∀ j, j ≠ 11 → j ≠ 12 → j ≠ 13 → Y 44 j = X 44 j) ∧ ∀ d j, d ≠ 44 → (d < 48 ∨ 57 < d) → Y d j = X d j
theorem lq_s {X Y : Mm} {n k : Nat} (hk : k < n) (h : Lq X n k 0 Y) : Lq X n (k + 1) 0 (st2 (st2 (st2 (st2 Y 48 k (Y 53 k)) 49 k (Y 54 k)) 50 k (Y 55 k)) 51 k (Y 56 k)) := by
  obtain ⟨e1, e2, e3, e4, e5, e6⟩ := h
  refine ⟨fun i hi => ?_, fun i hi => e2 i hi, fun j hj => by omega, fun j hj => e4 j hj, fun j z1 z2 z3 => e5 j z1 z2 z3, fun d j h44 hd => ?_⟩
  · rcases Nat.lt_or_ge i k with z | z
    · have q : i ≠ k := by omega
      simp [st2, q]
      exact e1 i z
    · obtain rfl : i = k := by omega
      simp [st2]
      exact e2 i hk
  · have z1 : d ≠ 48 := by omega
    have z2 : d ≠ 49 := by omega
    have z3 : d ≠ 50 := by omega
    have z4 : d ≠ 51 := by omega
    simp only [st2, if_neg z1, if_neg z2, if_neg z3, if_neg z4]
    exact e6 d j h44 hd
theorem lq_t {X Y : Mm} {n k q : Nat} (hq : q < 64) (h : Lq X n k q Y) : Lq X n k (q + 1) (st2 Y 52 q (Y 57 q)) := by
  obtain ⟨e1, e2, e3, e4, e5, e6⟩ := h
  refine ⟨fun i hi => e1 i hi, fun i hi => e2 i hi, fun j hj => ?_, fun j hj => e4 j hj, fun j z1 z2 z3 => e5 j z1 z2 z3, fun d j h44 hd => ?_⟩
  · rcases Nat.lt_or_ge j q with z | z
    · have z2 : j ≠ q := by omega
      simp [st2, z2]
      exact e3 j z
    · obtain rfl : j = q := by omega
      simp [st2]
      exact e4 j hq
  · have z1 : d ≠ 52 := by omega
    simp only [st2, if_neg z1]
    exact e6 d j h44 hd
set_option maxRecDepth 100000 in
set_option maxHeartbeats 8000000 in
theorem ct_X8_loop {l : Launch} {g : Geo} {X : Mm} {K : AV → Mm → Prop} {v : Mv} {a b : Int} (hX : MvM X v) (hv : vn v ≠ 0 → Vd v) (ht : X 44 13 = 0 ∨ X 44 13 = 1) (hpt : X 44 13 = 1 → X 44 14 = a ∧ X 44 15 = b ∧ ptOk v a b) (h0 : vn v = 0 → K (vI (-1)) X) (h1 : vn v ≠ 0 → ∀ X2, MvM X2 v → (∀ j, X2 44 j = X 44 j) → (∀ d j, d ≠ 44 → (d < 48 ∨ 57 < d) → X2 d j = X d j) → K (vI (lpN v 300 1 v : Int)) X2) : Ct l g mX8_loop [vR 44] X K := by
  refine enter (by decide) (Nat.le_of_ble_eq_true rfl) (fun κ => ?_)
  have x1 := hX.1
  rcases Nat.eq_zero_or_pos (vn v) with hz | hz
  · have hz2 := hz
    refine g_aload_n rfl dX8_loop_0 ?_
    refine gf_X8_94 rfl (by first | rfl | assumption) dX8_loop_1 ?_
    refine g_if_ne (t := 9) dX8_loop_4 (by decide) (by first | omega | (simp [st2]; done) | (simp [st2]; omega)) (fun b4 => ?_) (fun b4 => ?_)
    · exfalso; omega
    · refine g_iconst dX8_loop_7 ?_
      refine g_ireturn rfl dX8_loop_8 ?_
      exact h0 hz
  · have hv := hv (by omega)
    have hn8 := hv.2.1
    obtain ⟨R, hR⟩ : ∃ R, R = lpN v 300 1 v := ⟨_, rfl⟩
    rw [← hR] at h1
    have L5 : ∀ q : Nat, q ≤ 64 → ∀ Y, Lq X (vn v) (vn v) q Y → G l g mX8_loop κ K 255 [(0, vR 44), (1, vI (X 44 11)), (2, vI (X 44 12)), (3, vI (X 44 13)), (4, vI (R : Int)), (6, vI (q : Int))] [] Y := by
      refine upTo 64 ?_
      intro q hq ih Y hY
      refine g_iload rfl dX8_loop_255 ?_
      refine g_bipush (by decide) dX8_loop_257 ?_
      refine g_icmp_ge (t := 282) dX8_loop_259 (by decide) (by first | omega | (simp [st2]; done) | (simp [st2]; omega)) (by first | omega | (simp [st2]; done) | (simp [st2]; omega)) (fun b259 => ?_) (fun b259 => ?_)
      · refine g_aload_n rfl dX8_loop_282 ?_
        refine g_iload_n rfl dX8_loop_283 ?_
        refine pf_X8_101 rfl (by first | rfl | assumption) dX8_loop_284 ?_
        refine g_aload_n rfl dX8_loop_287 ?_
        refine g_iload_n rfl dX8_loop_288 ?_
        refine pf_X8_104 rfl (by first | rfl | assumption) dX8_loop_289 ?_
        refine g_aload_n rfl dX8_loop_292 ?_
        refine g_iload_n rfl dX8_loop_293 ?_
        refine pf_X8_97 (by omega) rfl (by first | rfl | assumption) dX8_loop_294 ?_
        refine g_iload rfl dX8_loop_297 ?_
        refine g_ireturn rfl dX8_loop_299 ?_
        obtain ⟨e1, e2, e3, e4, e5, e6⟩ := hY
        refine h1 (by omega) _ ⟨?_, ?_, fun k hk => ?_, fun i j hi hj => ?_⟩ (fun j => ?_) (fun d j h44 hd => ?_)
        · exact (e5 5 (by decide) (by decide) (by decide)).trans x1
        · exact (e5 0 (by decide) (by decide) (by decide)).trans hX.2.1
        · have z := e1 k hk
          have y := hX.2.2.1 k hk
          exact ⟨z.1.trans y.1, z.2.1.trans y.2.1, z.2.2.1.trans y.2.2.1, z.2.2.2.trans y.2.2.2⟩
        · exact (e3 (8 * i + j) (by omega)).trans (hX.2.2.2 i j hi hj)
        · by_cases z1 : j = 11
          · subst z1; rfl
          · by_cases z2 : j = 12
            · subst z2; rfl
            · by_cases z3 : j = 13
              · subst z3; rfl
              · simp [st2, z1, z2, z3]
                exact e5 j z1 z2 z3
        · simp only [st2, if_neg h44]
          exact e6 d j h44 hd
      · refine g_aload_n rfl dX8_loop_262 ?_
        refine gf_X8_32 (c2 := 52) rfl rfl (by first | rfl | assumption) dX8_loop_263 ?_
        refine g_iload rfl dX8_loop_266 ?_
        refine g_aload_n rfl dX8_loop_268 ?_
        refine gf_X8_47 (c2 := 57) rfl rfl (by first | rfl | assumption) dX8_loop_269 ?_
        refine g_iload rfl dX8_loop_272 ?_
        refine g_lald (n := 64) (_) (by first | rfl | assumption) (by first | rfl | assumption) rfl (by first | omega | (simp [st2]; done) | (simp [st2]; omega)) (by first | omega | (simp [st2]; done) | (simp [st2]; omega)) dX8_loop_274 ?_
        refine g_last (n := 64) (_) (by first | rfl | assumption) (by first | rfl | assumption) rfl (by first | omega | (simp [st2]; done) | (simp [st2]; omega)) (by first | omega | (simp [st2]; done) | (simp [st2]; omega)) dX8_loop_275 ?_
        refine g_iinc rfl (by decide) dX8_loop_276 ?_
        refine g_goto (t := 255) dX8_loop_279 (by decide) ?_
        refine g_subl [(0, vR 44), (1, vI (X 44 11)), (2, vI (X 44 12)), (3, vI (X 44 13)), (4, vI (R : Int)), (6, vI ((q + 1 : Nat) : Int))] rfl ?_
        exact ih (q + 1) (by omega) (by omega) _ (lq_t (by omega) hY)
    have L4 : ∀ k : Nat, k ≤ vn v → ∀ Y, Lq X (vn v) k 0 Y → G l g mX8_loop κ K 181 [(0, vR 44), (1, vI (X 44 11)), (2, vI (X 44 12)), (3, vI (X 44 13)), (4, vI (R : Int)), (6, vI (k : Int))] [] Y := by
      refine upTo (vn v) ?_
      intro k hk ih Y hY
      have y5 : Y 44 5 = (vn v : Int) := (hY.2.2.2.2.1 5 (by decide) (by decide) (by decide)).trans x1
      refine g_iload rfl dX8_loop_181 ?_
      refine g_aload_n rfl dX8_loop_183 ?_
      refine gf_X8_94 rfl (by first | rfl | assumption) dX8_loop_184 ?_
      refine g_icmp_ge (t := 252) dX8_loop_187 (by decide) (by first | omega | (simp [st2]; done) | (simp [st2]; omega)) (by first | omega | (simp [st2]; done) | (simp [st2]; omega)) (fun b187 => ?_) (fun b187 => ?_)
      · refine g_iconst dX8_loop_252 ?_
        refine g_istore (by decide) dX8_loop_253 ?_
        obtain rfl : k = vn v := by omega
        refine g_subl [(0, vR 44), (1, vI (X 44 11)), (2, vI (X 44 12)), (3, vI (X 44 13)), (4, vI (R : Int)), (6, vI ((0 : Nat) : Int))] rfl ?_
        exact L5 0 (by omega) Y hY
      · refine g_aload_n rfl dX8_loop_190 ?_
        refine gf_X8_19 (c2 := 48) rfl rfl (by first | rfl | assumption) dX8_loop_191 ?_
        refine g_iload rfl dX8_loop_194 ?_
        refine g_aload_n rfl dX8_loop_196 ?_
        refine gf_X8_35 (c2 := 53) rfl rfl (by first | rfl | assumption) dX8_loop_197 ?_
        refine g_iload rfl dX8_loop_200 ?_
        refine g_lald (n := 8) (_) (by first | rfl | assumption) (by first | rfl | assumption) rfl (by first | omega | (simp [st2]; done) | (simp [st2]; omega)) (by first | omega | (simp [st2]; done) | (simp [st2]; omega)) dX8_loop_202 ?_
        refine g_last (n := 8) (_) (by first | rfl | assumption) (by first | rfl | assumption) rfl (by first | omega | (simp [st2]; done) | (simp [st2]; omega)) (by first | omega | (simp [st2]; done) | (simp [st2]; omega)) dX8_loop_203 ?_
        refine g_aload_n rfl dX8_loop_204 ?_
        refine gf_X8_23 (c2 := 49) rfl rfl (by first | rfl | assumption) dX8_loop_205 ?_
        refine g_iload rfl dX8_loop_208 ?_
        refine g_aload_n rfl dX8_loop_210 ?_
        refine gf_X8_38 (c2 := 54) rfl rfl (by first | rfl | assumption) dX8_loop_211 ?_
        refine g_iload rfl dX8_loop_214 ?_
        refine g_lald (n := 8) (_) (by first | rfl | assumption) (by first | rfl | assumption) rfl (by first | omega | (simp [st2]; done) | (simp [st2]; omega)) (by first | omega | (simp [st2]; done) | (simp [st2]; omega)) dX8_loop_216 ?_
        refine g_last (n := 8) (_) (by first | rfl | assumption) (by first | rfl | assumption) rfl (by first | omega | (simp [st2]; done) | (simp [st2]; omega)) (by first | omega | (simp [st2]; done) | (simp [st2]; omega)) dX8_loop_217 ?_
        refine g_aload_n rfl dX8_loop_218 ?_
        refine gf_X8_26 (c2 := 50) rfl rfl (by first | rfl | assumption) dX8_loop_219 ?_
        refine g_iload rfl dX8_loop_222 ?_
        refine g_aload_n rfl dX8_loop_224 ?_
        refine gf_X8_41 (c2 := 55) rfl rfl (by first | rfl | assumption) dX8_loop_225 ?_
        refine g_iload rfl dX8_loop_228 ?_
        refine g_iald (n := 8) (_) (by first | rfl | assumption) (by first | rfl | assumption) rfl (by first | omega | (simp [st2]; done) | (simp [st2]; omega)) (by first | omega | (simp [st2]; done) | (simp [st2]; omega)) dX8_loop_230 ?_
        refine g_iast (n := 8) (_) (by first | rfl | assumption) (by first | rfl | assumption) rfl (by first | omega | (simp [st2]; done) | (simp [st2]; omega)) (by first | omega | (simp [st2]; done) | (simp [st2]; omega)) dX8_loop_231 ?_
        refine g_aload_n rfl dX8_loop_232 ?_
        refine gf_X8_29 (c2 := 51) rfl rfl (by first | rfl | assumption) dX8_loop_233 ?_
        refine g_iload rfl dX8_loop_236 ?_
        refine g_aload_n rfl dX8_loop_238 ?_
        refine gf_X8_44 (c2 := 56) rfl rfl (by first | rfl | assumption) dX8_loop_239 ?_
        refine g_iload rfl dX8_loop_242 ?_
        refine g_iald (n := 8) (_) (by first | rfl | assumption) (by first | rfl | assumption) rfl (by first | omega | (simp [st2]; done) | (simp [st2]; omega)) (by first | omega | (simp [st2]; done) | (simp [st2]; omega)) dX8_loop_244 ?_
        refine g_iast (n := 8) (_) (by first | rfl | assumption) (by first | rfl | assumption) rfl (by first | omega | (simp [st2]; done) | (simp [st2]; omega)) (by first | omega | (simp [st2]; done) | (simp [st2]; omega)) dX8_loop_245 ?_
        refine g_iinc rfl (by decide) dX8_loop_246 ?_
        refine g_goto (t := 181) dX8_loop_249 (by decide) ?_
        refine g_subl [(0, vR 44), (1, vI (X 44 11)), (2, vI (X 44 12)), (3, vI (X 44 13)), (4, vI (R : Int)), (6, vI ((k + 1 : Nat) : Int))] rfl ?_
        exact ih (k + 1) (by omega) (by omega) _ (lq_s (by omega) hY)
    have L4s : ∀ Y, Lq X (vn v) 0 0 Y → G l g mX8_loop κ K 178 [(0, vR 44), (1, vI (X 44 11)), (2, vI (X 44 12)), (3, vI (X 44 13)), (4, vI (R : Int))] [] Y := by
      intro Y hY
      refine g_iconst dX8_loop_178 ?_
      refine g_istore (by decide) dX8_loop_179 ?_
      refine g_subl [(0, vR 44), (1, vI (X 44 11)), (2, vI (X 44 12)), (3, vI (X 44 13)), (4, vI (R : Int)), (6, vI ((0 : Nat) : Int))] rfl ?_
      exact L4 0 (by omega) Y hY
    have lqOf : ∀ (Z Y : Mm) (w : Mv) (k su : Int), Sv X (vn v) (vn v) 64 Z → StM Z w a b k su Y → Lq X (vn v) 0 0 Y := by
      intro Z Y w k su hZ hY
      obtain ⟨s1, s2, s3⟩ := hZ
      obtain ⟨t0, t1, t2, t3, t4, t5, t6⟩ := hY
      refine ⟨fun i hi => by omega, fun i hi => ?_, fun j hj => by omega, fun j hj => ?_, fun j z1 z2 z3 => ?_, fun d j h44 hd => ?_⟩
      · rw [t6 53 i (by decide) (by omega), t6 54 i (by decide) (by omega), t6 55 i (by decide) (by omega), t6 56 i (by decide) (by omega)]
        exact s1 i hi
      · rw [t6 57 j (by decide) (by omega)]
        exact s2 j hj
      · rw [t5 j z1 z2 z3]
        exact s3 44 j (by omega)
      · rw [t6 d j h44 (by omega)]
        exact s3 d j (by omega)
    have L3e : ∀ (m : Int) (Y : Mm), (0 ≤ m ∧ m ≤ 302) → Lq X (vn v) 0 0 Y → G l g mX8_loop κ K 123 [(0, vR 44), (1, vI (X 44 11)), (2, vI (X 44 12)), (3, vI (X 44 13)), (4, vI (R : Int)), (5, vI 0), (6, vI m)] [] Y := by
      intro m Y hm hY
      refine g_iload rfl dX8_loop_123 ?_
      refine g_sipush (by decide) dX8_loop_125 ?_
      refine g_icmp_gt (t := 178) dX8_loop_128 (by decide) (by first | omega | (simp [st2]; done) | (simp [st2]; omega)) (by first | omega | (simp [st2]; done) | (simp [st2]; omega)) (fun b128 => ?_) (fun b128 => ?_)
      · refine g_subl [(0, vR 44), (1, vI (X 44 11)), (2, vI (X 44 12)), (3, vI (X 44 13)), (4, vI (R : Int))] rfl ?_
        exact L4s Y hY
      · refine g_iload rfl dX8_loop_131 ?_
        refine g_if_eq (t := 178) dX8_loop_133 (by decide) (by first | omega | (simp [st2]; done) | (simp [st2]; omega)) (fun b133 => ?_) (fun b133 => ?_)
        · refine g_subl [(0, vR 44), (1, vI (X 44 11)), (2, vI (X 44 12)), (3, vI (X 44 13)), (4, vI (R : Int))] rfl ?_
          exact L4s Y hY
        · exact absurd rfl b133
    have L3 : ∀ Z, Sv X (vn v) (vn v) 64 Z → ∀ k : Nat, k ≤ 300 → ∀ (w : Mv) (su : Int) (Y : Mm), Vd w → vn w = vn v → vr w = vr v → R = lpN v (300 - k) (k + 1) w → StM Z w a b k su Y → G l g mX8_loop κ K 123 [(0, vR 44), (1, vI (X 44 11)), (2, vI (X 44 12)), (3, vI (X 44 13)), (4, vI 0), (5, vI 1), (6, vI ((k + 1 : Nat) : Int))] [] Y := by
      intro Z hZ
      refine upTo 300 ?_
      intro k hk ih w su Y hw hwn hwr r1 hs
      have hrg := stR_rng w
      have hlq := lqOf Z Y w k su hZ hs
      have z14 : Z 44 14 = X 44 14 := hZ.2.2 44 14 (by omega)
      have z15 : Z 44 15 = X 44 15 := hZ.2.2 44 15 (by omega)
      have z13 : Z 44 13 = X 44 13 := hZ.2.2 44 13 (by omega)
      refine g_iload rfl dX8_loop_123 ?_
      refine g_sipush (by decide) dX8_loop_125 ?_
      refine g_icmp_gt (t := 178) dX8_loop_128 (by decide) (by first | omega | (simp [st2]; done) | (simp [st2]; omega)) (by first | omega | (simp [st2]; done) | (simp [st2]; omega)) (fun b128 => ?_) (fun b128 => ?_)
      · rw [show 300 - k = 0 by omega, lpN] at r1
        refine g_subl [(0, vR 44), (1, vI (X 44 11)), (2, vI (X 44 12)), (3, vI (X 44 13)), (4, vI (R : Int))] (by rw [r1]; rfl) ?_
        exact L4s Y hlq
      · refine g_iload rfl dX8_loop_131 ?_
        refine g_if_eq (t := 178) dX8_loop_133 (by decide) (by first | omega | (simp [st2]; done) | (simp [st2]; omega)) (fun b133 => ?_) (fun b133 => ?_)
        · exact absurd b133 (by decide)
        · refine g_aload_n rfl dX8_loop_136 ?_
          refine g_cv0 (M2 := mX8_step) (ci := 8) dX8_loop_137 ml_RX8_175 kX8_step (by decide) (by first | rfl | assumption) (by decide) rfl (by unfold Rm; decide) (Nat.le_of_ble_eq_true rfl) (ct_X8_step (v := w) (a := a) (b := b) hs.1 (fun _ => hw) hs.has (fun z => by
  obtain ⟨z1, z2⟩ := hs.has1 z
  obtain ⟨p1, p2, p3⟩ := hpt (by omega)
  exact ⟨by rw [hs.2.2.2.2.2.1 14 (by decide) (by decide) (by decide), z14]; exact p1, by rw [hs.2.2.2.2.2.1 15 (by decide) (by decide) (by decide), z15]; exact p2, p3.1, fun e => p3.2.1 (by rw [← hwr]; exact e)⟩) (fun q => absurd q (by have := hw.1; omega)) (fun _ hneg => ?_) (fun _ hpos X3 e0 e1 e2 e3 e4 e5 e6 => ?_))
          · refine g_if_lt (t := 147) dX8_loop_140 (by decide) (by first | omega | (simp [st2]; done) | (simp [st2]; omega)) (fun b140 => ?_) (fun b140 => ?_)
            · refine g_iconst dX8_loop_147 ?_
              refine g_istore (by decide) dX8_loop_148 ?_
              refine g_iload rfl dX8_loop_150 ?_
              refine g_if_eq (t := 172) dX8_loop_152 (by decide) (by first | omega | (simp [st2]; done) | (simp [st2]; omega)) (fun b152 => ?_) (fun b152 => ?_)
              · refine g_iinc rfl (by decide) dX8_loop_172 ?_
                refine g_goto (t := 123) dX8_loop_175 (by decide) ?_
                first
                  | (rw [lpN_y hpos hlp] at r1
                     refine g_subl [(0, vR 44), (1, vI (X 44 11)), (2, vI (X 44 12)), (3, vI (X 44 13)), (4, vI (R : Int)), (5, vI 0), (6, vI ((k + 1 + 1 : Nat) : Int))] (by rw [r1]; rfl) ?_
                     exact L3e _ X3 (by omega) hlq3)
                  | (rw [lpN_n hpos hlp] at r1
                     refine g_subl [(0, vR 44), (1, vI (X 44 11)), (2, vI (X 44 12)), (3, vI (X 44 13)), (4, vI 0), (5, vI 1), (6, vI ((k + 1 + 1 : Nat) : Int))] rfl ?_
                     exact ih (k + 1) (by omega) (by omega) (stN w) _ X3 hok.1 (hok.2.1.trans hwn) (hok.2.2.1.trans hwr) (by rw [r1, show 300 - (k + 1) = d by omega]) hs3)
                  | (rw [lpN_0 hneg] at r1
                     refine g_subl [(0, vR 44), (1, vI (X 44 11)), (2, vI (X 44 12)), (3, vI (X 44 13)), (4, vI (R : Int)), (5, vI 0), (6, vI ((k + 1 + 1 : Nat) : Int))] (by rw [r1]; rfl) ?_
                     exact L3e _ Y (by omega) hlq)
              · exact absurd rfl b152
            · exact absurd hneg b140
          · refine g_if_lt (t := 147) dX8_loop_140 (by decide) (by first | omega | (simp [st2]; done) | (simp [st2]; omega)) (fun b140 => ?_) (fun b140 => ?_)
            · exact absurd hpos (by omega)
            · refine g_iconst dX8_loop_143 ?_
              refine g_goto (t := 148) dX8_loop_144 (by decide) ?_
              refine g_istore (by decide) dX8_loop_148 ?_
              refine g_iload rfl dX8_loop_150 ?_
              refine g_if_eq (t := 172) dX8_loop_152 (by decide) (by first | omega | (simp [st2]; done) | (simp [st2]; omega)) (fun b152 => ?_) (fun b152 => ?_)
              · exact absurd b152 (by decide)
              · have hs3 := stM_s hw hpos hs e0 e1 e2 e3 e4 e5 e6
                have hok := stN_ok hw hpos
                have hlq3 := lqOf Z X3 (stN w) _ _ hZ hs3
                have hwas : WasM X3 v := fun i hi => by
                  have z := hlq3.2.1 i hi
                  have y := hX.2.2.1 i hi
                  exact ⟨z.1.trans y.1, z.2.1.trans y.2.1, z.2.2.1.trans y.2.2.1, z.2.2.2.trans y.2.2.2⟩
                obtain ⟨d, hd⟩ : ∃ d, 300 - k = d + 1 := ⟨300 - k - 1, by omega⟩
                rw [hd] at r1
                refine g_aload_n rfl dX8_loop_155 ?_
                refine g_cv0 (M2 := mX8_isLoop) (ci := 8) dX8_loop_156 ml_RX8_184 kX8_isLoop (by decide) (by first | rfl | assumption) (by decide) rfl (by unfold Rm; decide) (Nat.le_of_ble_eq_true rfl) (ct_X8_isLoop (w := stN w) (v := v) e0 hwas hv hok.1 (hok.2.1.trans hwn) (hok.2.2.1.trans hwr) (fun hlp => ?_) (fun hlp => ?_))
                · refine g_if_ne (t := 165) dX8_loop_159 (by decide) (by first | omega | (simp [st2]; done) | (simp [st2]; omega)) (fun b159 => ?_) (fun b159 => ?_)
                  · refine g_iload rfl dX8_loop_165 ?_
                    refine g_istore (by decide) dX8_loop_167 ?_
                    refine g_iconst dX8_loop_169 ?_
                    refine g_istore (by decide) dX8_loop_170 ?_
                    refine g_iinc rfl (by decide) dX8_loop_172 ?_
                    refine g_goto (t := 123) dX8_loop_175 (by decide) ?_
                    first
                      | (rw [lpN_y hpos hlp] at r1
                         refine g_subl [(0, vR 44), (1, vI (X 44 11)), (2, vI (X 44 12)), (3, vI (X 44 13)), (4, vI (R : Int)), (5, vI 0), (6, vI ((k + 1 + 1 : Nat) : Int))] (by rw [r1]; rfl) ?_
                         exact L3e _ X3 (by omega) hlq3)
                      | (rw [lpN_n hpos hlp] at r1
                         refine g_subl [(0, vR 44), (1, vI (X 44 11)), (2, vI (X 44 12)), (3, vI (X 44 13)), (4, vI 0), (5, vI 1), (6, vI ((k + 1 + 1 : Nat) : Int))] rfl ?_
                         exact ih (k + 1) (by omega) (by omega) (stN w) _ X3 hok.1 (hok.2.1.trans hwn) (hok.2.2.1.trans hwr) (by rw [r1, show 300 - (k + 1) = d by omega]) hs3)
                      | (rw [lpN_0 hneg] at r1
                         refine g_subl [(0, vR 44), (1, vI (X 44 11)), (2, vI (X 44 12)), (3, vI (X 44 13)), (4, vI (R : Int)), (5, vI 0), (6, vI ((k + 1 + 1 : Nat) : Int))] (by rw [r1]; rfl) ?_
                         exact L3e _ Y (by omega) hlq)
                  · exact absurd b159 (by decide)
                · refine g_if_ne (t := 165) dX8_loop_159 (by decide) (by first | omega | (simp [st2]; done) | (simp [st2]; omega)) (fun b159 => ?_) (fun b159 => ?_)
                  · exact absurd rfl b159
                  · refine g_goto (t := 172) dX8_loop_162 (by decide) ?_
                    refine g_iinc rfl (by decide) dX8_loop_172 ?_
                    refine g_goto (t := 123) dX8_loop_175 (by decide) ?_
                    first
                      | (rw [lpN_y hpos hlp] at r1
                         refine g_subl [(0, vR 44), (1, vI (X 44 11)), (2, vI (X 44 12)), (3, vI (X 44 13)), (4, vI (R : Int)), (5, vI 0), (6, vI ((k + 1 + 1 : Nat) : Int))] (by rw [r1]; rfl) ?_
                         exact L3e _ X3 (by omega) hlq3)
                      | (rw [lpN_n hpos hlp] at r1
                         refine g_subl [(0, vR 44), (1, vI (X 44 11)), (2, vI (X 44 12)), (3, vI (X 44 13)), (4, vI 0), (5, vI 1), (6, vI ((k + 1 + 1 : Nat) : Int))] rfl ?_
                         exact ih (k + 1) (by omega) (by omega) (stN w) _ X3 hok.1 (hok.2.1.trans hwn) (hok.2.2.1.trans hwr) (by rw [r1, show 300 - (k + 1) = d by omega]) hs3)
                      | (rw [lpN_0 hneg] at r1
                         refine g_subl [(0, vR 44), (1, vI (X 44 11)), (2, vI (X 44 12)), (3, vI (X 44 13)), (4, vI (R : Int)), (5, vI 0), (6, vI ((k + 1 + 1 : Nat) : Int))] (by rw [r1]; rfl) ?_
                         exact L3e _ Y (by omega) hlq)
    have L2 : ∀ q : Nat, q ≤ 64 → ∀ Z, Sv X (vn v) (vn v) q Z → G l g mX8_loop κ K 75 [(0, vR 44), (1, vI (q : Int))] [] Z := by
      refine upTo 64 ?_
      intro q hq ih Z hZ
      have z11 : Z 44 11 = X 44 11 := hZ.2.2 44 11 (by omega)
      have z12 : Z 44 12 = X 44 12 := hZ.2.2 44 12 (by omega)
      have z13 : Z 44 13 = X 44 13 := hZ.2.2 44 13 (by omega)
      refine g_iload_n rfl dX8_loop_75 ?_
      refine g_bipush (by decide) dX8_loop_76 ?_
      refine g_icmp_ge (t := 99) dX8_loop_78 (by decide) (by first | omega | (simp [st2]; done) | (simp [st2]; omega)) (by first | omega | (simp [st2]; done) | (simp [st2]; omega)) (fun b78 => ?_) (fun b78 => ?_)
      · refine g_aload_n rfl dX8_loop_99 ?_
        refine gf_X8_101 rfl (by first | rfl | assumption) dX8_loop_100 ?_
        refine g_istore_n (by decide) dX8_loop_103 ?_
        refine g_aload_n rfl dX8_loop_104 ?_
        refine gf_X8_104 rfl (by first | rfl | assumption) dX8_loop_105 ?_
        refine g_istore_n (by decide) dX8_loop_108 ?_
        refine g_aload_n rfl dX8_loop_109 ?_
        refine gf_X8_97 rfl (by first | rfl | assumption) dX8_loop_110 ?_
        refine g_istore_n (by decide) dX8_loop_113 ?_
        refine g_iconst dX8_loop_114 ?_
        refine g_istore (by decide) dX8_loop_115 ?_
        refine g_iconst dX8_loop_117 ?_
        refine g_istore (by decide) dX8_loop_118 ?_
        refine g_iconst dX8_loop_120 ?_
        refine g_istore (by decide) dX8_loop_121 ?_
        obtain rfl : q = 64 := by omega
        refine g_subl [(0, vR 44), (1, vI (X 44 11)), (2, vI (X 44 12)), (3, vI (X 44 13)), (4, vI 0), (5, vI 1), (6, vI ((0 + 1 : Nat) : Int))] (by rw [← z11, ← z12, ← z13]; rfl) ?_
        refine L3 Z hZ 0 (by omega) v 0 Z hv rfl rfl hR (StM.rf ?_ (by omega) (fun z => (hpt (by omega)).2.2.2.2))
        refine ⟨(hZ.2.2 44 5 (by omega)).trans x1, (hZ.2.2 44 0 (by omega)).trans hX.2.1, fun k hk => ?_, fun i j hi hj => ?_⟩
        · rw [hZ.2.2 48 k (by omega), hZ.2.2 49 k (by omega), hZ.2.2 50 k (by omega), hZ.2.2 51 k (by omega)]
          exact hX.2.2.1 k hk
        · rw [hZ.2.2 52 _ (by omega)]
          exact hX.2.2.2 i j hi hj
      · refine g_aload_n rfl dX8_loop_81 ?_
        refine gf_X8_47 (c2 := 57) rfl rfl (by first | rfl | assumption) dX8_loop_82 ?_
        refine g_iload_n rfl dX8_loop_85 ?_
        refine g_aload_n rfl dX8_loop_86 ?_
        refine gf_X8_32 (c2 := 52) rfl rfl (by first | rfl | assumption) dX8_loop_87 ?_
        refine g_iload_n rfl dX8_loop_90 ?_
        refine g_lald (n := 64) (_) (by first | rfl | assumption) (by first | rfl | assumption) rfl (by first | omega | (simp [st2]; done) | (simp [st2]; omega)) (by first | omega | (simp [st2]; done) | (simp [st2]; omega)) dX8_loop_91 ?_
        refine g_last (n := 64) (_) (by first | rfl | assumption) (by first | rfl | assumption) rfl (by first | omega | (simp [st2]; done) | (simp [st2]; omega)) (by first | omega | (simp [st2]; done) | (simp [st2]; omega)) dX8_loop_92 ?_
        refine g_iinc rfl (by decide) dX8_loop_93 ?_
        refine g_goto (t := 75) dX8_loop_96 (by decide) ?_
        refine g_subl [(0, vR 44), (1, vI ((q + 1 : Nat) : Int))] rfl ?_
        exact ih (q + 1) (by omega) (by omega) _ (sv_t hZ)
    have L1 : ∀ k : Nat, k ≤ vn v → ∀ Z, Sv X (vn v) k 0 Z → G l g mX8_loop κ K 11 [(0, vR 44), (1, vI (k : Int))] [] Z := by
      refine upTo (vn v) ?_
      intro k hk ih Z hZ
      have z5 : Z 44 5 = (vn v : Int) := (hZ.2.2 44 5 (by omega)).trans x1
      refine g_iload_n rfl dX8_loop_11 ?_
      refine g_aload_n rfl dX8_loop_12 ?_
      refine gf_X8_94 rfl (by first | rfl | assumption) dX8_loop_13 ?_
      refine g_icmp_ge (t := 73) dX8_loop_16 (by decide) (by first | omega | (simp [st2]; done) | (simp [st2]; omega)) (by first | omega | (simp [st2]; done) | (simp [st2]; omega)) (fun b16 => ?_) (fun b16 => ?_)
      · refine g_iconst dX8_loop_73 ?_
        refine g_istore_n (by decide) dX8_loop_74 ?_
        obtain rfl : k = vn v := by omega
        refine g_subl [(0, vR 44), (1, vI ((0 : Nat) : Int))] rfl ?_
        exact L2 0 (by omega) Z hZ
      · refine g_aload_n rfl dX8_loop_19 ?_
        refine gf_X8_35 (c2 := 53) rfl rfl (by first | rfl | assumption) dX8_loop_20 ?_
        refine g_iload_n rfl dX8_loop_23 ?_
        refine g_aload_n rfl dX8_loop_24 ?_
        refine gf_X8_19 (c2 := 48) rfl rfl (by first | rfl | assumption) dX8_loop_25 ?_
        refine g_iload_n rfl dX8_loop_28 ?_
        refine g_lald (n := 8) (_) (by first | rfl | assumption) (by first | rfl | assumption) rfl (by first | omega | (simp [st2]; done) | (simp [st2]; omega)) (by first | omega | (simp [st2]; done) | (simp [st2]; omega)) dX8_loop_29 ?_
        refine g_last (n := 8) (_) (by first | rfl | assumption) (by first | rfl | assumption) rfl (by first | omega | (simp [st2]; done) | (simp [st2]; omega)) (by first | omega | (simp [st2]; done) | (simp [st2]; omega)) dX8_loop_30 ?_
        refine g_aload_n rfl dX8_loop_31 ?_
        refine gf_X8_38 (c2 := 54) rfl rfl (by first | rfl | assumption) dX8_loop_32 ?_
        refine g_iload_n rfl dX8_loop_35 ?_
        refine g_aload_n rfl dX8_loop_36 ?_
        refine gf_X8_23 (c2 := 49) rfl rfl (by first | rfl | assumption) dX8_loop_37 ?_
        refine g_iload_n rfl dX8_loop_40 ?_
        refine g_lald (n := 8) (_) (by first | rfl | assumption) (by first | rfl | assumption) rfl (by first | omega | (simp [st2]; done) | (simp [st2]; omega)) (by first | omega | (simp [st2]; done) | (simp [st2]; omega)) dX8_loop_41 ?_
        refine g_last (n := 8) (_) (by first | rfl | assumption) (by first | rfl | assumption) rfl (by first | omega | (simp [st2]; done) | (simp [st2]; omega)) (by first | omega | (simp [st2]; done) | (simp [st2]; omega)) dX8_loop_42 ?_
        refine g_aload_n rfl dX8_loop_43 ?_
        refine gf_X8_41 (c2 := 55) rfl rfl (by first | rfl | assumption) dX8_loop_44 ?_
        refine g_iload_n rfl dX8_loop_47 ?_
        refine g_aload_n rfl dX8_loop_48 ?_
        refine gf_X8_26 (c2 := 50) rfl rfl (by first | rfl | assumption) dX8_loop_49 ?_
        refine g_iload_n rfl dX8_loop_52 ?_
        refine g_iald (n := 8) (_) (by first | rfl | assumption) (by first | rfl | assumption) rfl (by first | omega | (simp [st2]; done) | (simp [st2]; omega)) (by first | omega | (simp [st2]; done) | (simp [st2]; omega)) dX8_loop_53 ?_
        refine g_iast (n := 8) (_) (by first | rfl | assumption) (by first | rfl | assumption) rfl (by first | omega | (simp [st2]; done) | (simp [st2]; omega)) (by first | omega | (simp [st2]; done) | (simp [st2]; omega)) dX8_loop_54 ?_
        refine g_aload_n rfl dX8_loop_55 ?_
        refine gf_X8_44 (c2 := 56) rfl rfl (by first | rfl | assumption) dX8_loop_56 ?_
        refine g_iload_n rfl dX8_loop_59 ?_
        refine g_aload_n rfl dX8_loop_60 ?_
        refine gf_X8_29 (c2 := 51) rfl rfl (by first | rfl | assumption) dX8_loop_61 ?_
        refine g_iload_n rfl dX8_loop_64 ?_
        refine g_iald (n := 8) (_) (by first | rfl | assumption) (by first | rfl | assumption) rfl (by first | omega | (simp [st2]; done) | (simp [st2]; omega)) (by first | omega | (simp [st2]; done) | (simp [st2]; omega)) dX8_loop_65 ?_
        refine g_iast (n := 8) (_) (by first | rfl | assumption) (by first | rfl | assumption) rfl (by first | omega | (simp [st2]; done) | (simp [st2]; omega)) (by first | omega | (simp [st2]; done) | (simp [st2]; omega)) dX8_loop_66 ?_
        refine g_iinc rfl (by decide) dX8_loop_67 ?_
        refine g_goto (t := 11) dX8_loop_70 (by decide) ?_
        refine g_subl [(0, vR 44), (1, vI ((k + 1 : Nat) : Int))] rfl ?_
        exact ih (k + 1) (by omega) (by omega) _ (sv_s hZ)
    refine g_aload_n rfl dX8_loop_0 ?_
    refine gf_X8_94 rfl (by first | rfl | assumption) dX8_loop_1 ?_
    refine g_if_ne (t := 9) dX8_loop_4 (by decide) (by first | omega | (simp [st2]; done) | (simp [st2]; omega)) (fun b4 => ?_) (fun b4 => ?_)
    · refine g_iconst dX8_loop_9 ?_
      refine g_istore_n (by decide) dX8_loop_10 ?_
      refine g_subl [(0, vR 44), (1, vI ((0 : Nat) : Int))] rfl ?_
      exact L1 0 (by omega) X ⟨fun i hi => by omega, fun j hj => by omega, fun _ _ _ => rfl⟩
    · exfalso; omega
