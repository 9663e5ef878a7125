/-! two blocks exchanged; what fits what was seen -/
def xcN (f : Nat → Nat) (j k : Nat) : Nat → Nat := fun q => if q = k then f j else if q = j then f k else f q
def exA (a : AH) (j k : Nat) : AH := (va_up (va_up a.1 0 (xcN (a.1 0) j k)) 1 (xcN (a.1 1) j k), a.2)
theorem xcN_xcN (f : Nat → Nat) (j k : Nat) : xcN (xcN f j k) j k = f := by
  funext q
  unfold xcN
  by_cases h1 : q = k
  · subst h1
    by_cases h2 : j = q
    · subst h2; simp
    · simp [h2]
  · by_cases h2 : q = j
    · subst h2; simp [h1]
    · simp [h1, h2]
theorem exA_exA (a : AH) (j k : Nat) : exA (exA a j k) j k = a := by
  unfold exA
  refine Prod.ext ?_ rfl
  funext s
  show va_up (va_up (va_up (va_up a.1 0 (xcN (a.1 0) j k)) 1 (xcN (a.1 1) j k)) 0 (xcN (xcN (a.1 0) j k) j k)) 1 (xcN (xcN (a.1 1) j k) j k) s = a.1 s
  rw [xcN_xcN, xcN_xcN]
  simp only [up_e]
  by_cases h1 : s = 1
  · rw [if_pos h1, h1]
  · rw [if_neg h1]
    by_cases h0 : s = 0
    · rw [if_pos h0, h0]
    · rw [if_neg h0, if_neg h1, if_neg h0]
theorem exA_hi {a : AH} (hi : HI a) {j k : Nat} (hj : j < a.2 5) (hk : k < a.2 5) : HI (exA a j k) := by
  have hb := hi.nb
  refine ⟨hb.1, hb.2.1, hb.2.2.1, hb.2.2.2.1, hb.2.2.2.2.1, hb.2.2.2.2.2.1, hb.2.2.2.2.2.2.1, hb.2.2.2.2.2.2.2.1, hb.2.2.2.2.2.2.2.2, fun q hq => ?_, fun q hq => hi.fd hq, fun q hq => hi.rl hq⟩
  have hq : q < a.2 5 := hq
  show xcN (a.1 0) j k q < 4 ∧ xcN (a.1 1) j k q ≤ 9
  unfold xcN
  by_cases h1 : q = k
  · rw [if_pos h1, if_pos h1]; exact ⟨hi.kd hj, hi.wm hj⟩
  · rw [if_neg h1, if_neg h1]
    by_cases h2 : q = j
    · rw [if_pos h2, if_pos h2]; exact ⟨hi.kd hk, hi.wm hk⟩
    · rw [if_neg h2, if_neg h2]; exact ⟨hi.kd hq, hi.wm hq⟩
theorem xc_up {f : Nat → Int32} {h : Nat → Nat} {B j k : Nat} (hf : ∀ q, q < B → f q = nI (h q)) (hj : j < B) (hk : k < B) : ∀ q, q < B → upd (upd f j (f k)) k (f j) q = nI (xcN h j k q) := by
  intro q hq
  unfold xcN
  rw [upd_e, upd_e]
  by_cases h1 : q = k
  · rw [if_pos h1, if_pos h1]; exact hf j hj
  · rw [if_neg h1, if_neg h1]
    by_cases h2 : q = j
    · rw [if_pos h2, if_pos h2]; exact hf k hk
    · rw [if_neg h2, if_neg h2]; exact hf q hq
theorem exchange_e {g : GS} {a : AH} (hv : HV g a) (hi : HI a) {j k : Nat} (hj : j < a.2 5) (hk : k < a.2 5) : ∃ g', mX0_exchange g (nI j) (nI k) = some g' ∧ HV g' (exA a j k) := by
  have hb := hi.nb
  refine ⟨sA (sA (sA (sA g 0 (upd (g.1 0) j (g.1 0 k))) 1 (upd (g.1 1) j (g.1 1 k))) 0 (upd (upd (g.1 0) j (g.1 0 k)) k (g.1 0 j))) 1 (upd (upd (g.1 1) j (g.1 1 k)) k (g.1 1 j)), ?_, ?_⟩
  · unfold mX0_exchange
    simp (disch := omega) only [↓reduceIte, obs, esc_il, esc_ir, leT, leF, ltT, ltF, eqT, eqF, nleT, nleF, nltT, nltF, neqT, neqF, nI_add, pk_mul, ald_nI, ast_nI, irm_nI, idv_nI, zbT, zbF, in_T, in_F1, in_F2, nI_l, sI_1, sI_2, sA_1, sA_2, subK, add0, sub0, or0, lN_add, lN_mul, L_0, L_1, L_2, L_3, L_4, L_5, L_6, L_7, L_8, L_9, L_10, L_11, L_12, L_13, L_14, L_15, L_16, L_17, L_18, L_19, L_20, L_30, L_31, L_32, L_35, L_37, L_39, L_40, L_43, L_48, L_57, L_59, L_60, L_97, L_99, L_100, L_120, L_122, L_127, L_160, L_200, L_255, L_999, L_1000, L_100000, L_1000000, L_24, L_33, L_34, L_36, L_38, L_69, L_70, L_72, L_214, L_215, L_288, L_174, L_175, L_206, LL_0, LL_1, LL_2, LL_3, LL_5, LL_9, LL_10, LL_11, LL_12, LL_19, LL_20, LL_30, LL_39, LL_60, LL_99, LL_127, LL_999, hasBlock_e hv hi]
  · refine ⟨?_, ?_, fun q hq => hv.fd hq, fun q hq => hv.ln hq, fun q hq => hv.pr hq, hv.b, hv.w, hv.s, hv.wd, hv.re, hv.u, hv.y, hv.r⟩
    · exact xc_up (fun q hq => hv.kd hq) hj hk
    · exact xc_up (fun q hq => hv.wm hq) hj hk
theorem swap65_e {M : GS} {f : Nat → Int32} {a : AH} (hp0 : PV f 0 a) (hp : PV f 200 a) (hi : HI a) {j k : Nat} (hj : j < a.2 5) (hk : k < a.2 5) (x y z t : Int32) (g1 g2 : GS) : ∃ n f', whO (mX8_swap_l65 (x, y, nI j, g1) (z, t, nI k, g2)) FU (nI 0, sA M 0 f) = some (n, sA M 0 f') ∧ PV f' 200 (exA a j k) ∧ FrP f f' 200 := by
  have hb := hi.nb
  have q1 : ∀ q, q < 200 → upd (upd f (200 + j) (f k)) (200 + k) (f j) q = f q := fun q hq => by
    rw [upd_e, upd_e, if_neg (by omega), if_neg (by omega)]
  refine ⟨nI 12, upd (upd (upd (upd f (200 + j) (f k)) (200 + k) (f j)) (206 + j) (f (6 + k))) (206 + k) (f (6 + j)), ?_, ?_, ?_⟩
  · refine whO_for (fun i => (nI (6 * i), sA M 0 (if i = 0 then f else if i = 1 then upd (upd f (200 + j) (f k)) (200 + k) (f j) else upd (upd (upd (upd f (200 + j) (f k)) (200 + k) (f j)) (206 + j) (f (6 + k))) (206 + k) (f (6 + j))))) 2 _ (by rfl) ?_ ?_ (by decide)
    · intro i h
      unfold mX8_swap_l65
      rcases (show i = 0 ∨ i = 1 by omega) with rfl | rfl
      · simp (disch := omega) only [↓reduceIte, obs, esc_il, esc_ir, leT, leF, ltT, ltF, eqT, eqF, nleT, nleF, nltT, nltF, neqT, neqF, nI_add, pk_mul, ald_nI, ast_nI, irm_nI, idv_nI, zbT, zbF, in_T, in_F1, in_F2, nI_l, sI_1, sI_2, sA_1, sA_2, subK, add0, sub0, or0, lN_add, lN_mul, L_0, L_1, L_2, L_3, L_4, L_5, L_6, L_7, L_8, L_9, L_10, L_11, L_12, L_13, L_14, L_15, L_16, L_17, L_18, L_19, L_20, L_30, L_31, L_32, L_35, L_37, L_39, L_40, L_43, L_48, L_57, L_59, L_60, L_97, L_99, L_100, L_120, L_122, L_127, L_160, L_200, L_255, L_999, L_1000, L_100000, L_1000000, L_24, L_33, L_34, L_36, L_38, L_69, L_70, L_72, L_214, L_215, L_288, L_174, L_175, L_206, LL_0, LL_1, LL_2, LL_3, LL_5, LL_9, LL_10, LL_11, LL_12, LL_19, LL_20, LL_30, LL_39, LL_60, LL_99, LL_127, LL_999, sA_s, sA_sA, Nat.zero_add, Nat.add_zero, Nat.mul_zero, Nat.mul_one]
        have e : upd f (200 + j) (f k) j = f j := by rw [upd_e, if_neg (by omega)]
        rw [e]
      · simp (disch := omega) only [↓reduceIte, obs, esc_il, esc_ir, leT, leF, ltT, ltF, eqT, eqF, nleT, nleF, nltT, nltF, neqT, neqF, nI_add, pk_mul, ald_nI, ast_nI, irm_nI, idv_nI, zbT, zbF, in_T, in_F1, in_F2, nI_l, sI_1, sI_2, sA_1, sA_2, subK, add0, sub0, or0, lN_add, lN_mul, L_0, L_1, L_2, L_3, L_4, L_5, L_6, L_7, L_8, L_9, L_10, L_11, L_12, L_13, L_14, L_15, L_16, L_17, L_18, L_19, L_20, L_30, L_31, L_32, L_35, L_37, L_39, L_40, L_43, L_48, L_57, L_59, L_60, L_97, L_99, L_100, L_120, L_122, L_127, L_160, L_200, L_255, L_999, L_1000, L_100000, L_1000000, L_24, L_33, L_34, L_36, L_38, L_69, L_70, L_72, L_214, L_215, L_288, L_174, L_175, L_206, LL_0, LL_1, LL_2, LL_3, LL_5, LL_9, LL_10, LL_11, LL_12, LL_19, LL_20, LL_30, LL_39, LL_60, LL_99, LL_127, LL_999, sA_s, sA_sA, Nat.mul_one]
        have e : upd (upd (upd f (200 + j) (f k)) (200 + k) (f j)) (206 + j) (f (6 + k)) (6 + j) = f (6 + j) := by rw [upd_e, if_neg (by omega), q1 _ (by omega)]
        rw [q1 (6 + k) (by omega), e]
    · unfold mX8_swap_l65
      simp (disch := omega) only [↓reduceIte, obs, esc_il, esc_ir, leT, leF, ltT, ltF, eqT, eqF, nleT, nleF, nltT, nltF, neqT, neqF, nI_add, pk_mul, ald_nI, ast_nI, irm_nI, idv_nI, zbT, zbF, in_T, in_F1, in_F2, nI_l, sI_1, sI_2, sA_1, sA_2, subK, add0, sub0, or0, lN_add, lN_mul, L_0, L_1, L_2, L_3, L_4, L_5, L_6, L_7, L_8, L_9, L_10, L_11, L_12, L_13, L_14, L_15, L_16, L_17, L_18, L_19, L_20, L_30, L_31, L_32, L_35, L_37, L_39, L_40, L_43, L_48, L_57, L_59, L_60, L_97, L_99, L_100, L_120, L_122, L_127, L_160, L_200, L_255, L_999, L_1000, L_100000, L_1000000, L_24, L_33, L_34, L_36, L_38, L_69, L_70, L_72, L_214, L_215, L_288, L_174, L_175, L_206, LL_0, LL_1, LL_2, LL_3, LL_5, LL_9, LL_10, LL_11, LL_12, LL_19, LL_20, LL_30, LL_39, LL_60, LL_99, LL_127, LL_999, Nat.reduceMul]
  · have ea : ∀ q, 212 ≤ q → upd (upd (upd (upd f (200 + j) (f k)) (200 + k) (f j)) (206 + j) (f (6 + k))) (206 + k) (f (6 + j)) q = f q := fun q hq => by
      simp (disch := omega) only [upd_e, ↓reduceIte, neqF]
    refine ⟨fun q hq => ?_, fun q hq => ?_, fun q hq => ?_, fun q hq => ?_, fun q hq => ?_, ?_, ?_, ?_, ?_, ?_, ?_, ?_, ?_⟩
    · have hq : q < a.2 5 := hq
      show _ = nI (xcN (a.1 0) j k q)
      unfold xcN
      simp (disch := omega) only [upd_e, ↓reduceIte, neqF]
      by_cases h1 : q = k
      · rw [if_pos (by omega), if_pos h1]; exact P0.kd hp0 hj
      · rw [if_neg (by omega), if_neg h1]
        by_cases h2 : q = j
        · rw [if_pos (by omega), if_pos h2]; exact P0.kd hp0 hk
        · rw [if_neg (by omega), if_neg h2]; exact hp.kd hq
    · have hq : q < a.2 5 := hq
      show _ = nI (xcN (a.1 1) j k q)
      unfold xcN
      simp (disch := omega) only [upd_e, ↓reduceIte, neqF]
      by_cases h1 : q = k
      · rw [if_pos (by omega), if_pos h1]; exact P0.wm hp0 hj
      · rw [if_neg (by omega), if_neg h1]
        by_cases h2 : q = j
        · rw [if_pos (by omega), if_pos h2]; exact P0.wm hp0 hk
        · rw [if_neg (by omega), if_neg h2]; exact hp.wm hq
    · rw [ea _ (by omega)]; exact hp.fd hq
    · rw [ea _ (by omega)]; exact hp.ln hq
    · rw [ea _ (by omega)]; exact hp.pr hq
    · rw [ea _ (by omega)]; exact hp.b
    · rw [ea _ (by omega)]; exact hp.w
    · rw [ea _ (by omega)]; exact hp.s
    · rw [ea _ (by omega)]; exact hp.wd
    · rw [ea _ (by omega)]; exact hp.re
    · rw [ea _ (by omega)]; exact hp.u
    · rw [ea _ (by omega)]; exact hp.y
    · rw [ea _ (by omega)]; exact hp.r
  · intro q hq
    simp (disch := omega) only [upd_e, ↓reduceIte, neqF]
def swI (v : Nat → Nat) (j : Nat) (s : Int32 × Nat) : Nat → Int32 × Nat
  | 0 => s
  | d + 1 => if v (j + 1 + d) ≤ (swI v j s d).2 then swI v j s d else (nI (10 * j + (j + 1 + d)), v (j + 1 + d))
def swO (v : Nat → Nat → Nat) (b : Nat) (s : Int32 × Nat) : Nat → Int32 × Nat
  | 0 => s
  | j + 1 => swI (v j) j (swO v b s j) (b - (j + 1))
theorem swI_le {v : Nat → Nat} {j b : Nat} (hv : ∀ k, k < b → v k ≤ 288) {s : Int32 × Nat} (hs : s.2 ≤ 288) : ∀ d, j + 1 + d ≤ b → (swI v j s d).2 ≤ 288
  | 0, _ => hs
  | d + 1, h => by
    rw [swI]
    split
    · exact swI_le hv hs d (by omega)
    · exact hv _ (by omega)
theorem swO_le {v : Nat → Nat → Nat} {b : Nat} (hv : ∀ j k, j < b → k < b → v j k ≤ 288) {s : Int32 × Nat} (hs : s.2 ≤ 288) : ∀ j, j ≤ b → (swO v b s j).2 ≤ 288
  | 0, _ => hs
  | j + 1, h => swI_le (fun k hk => hv j k (by omega) hk) (swO_le hv hs j (by omega)) _ (by omega)
theorem swI_y {v : Nat → Nat} {j : Nat} {s : Int32 × Nat} {d : Nat} (h : v (j + 1 + d) ≤ (swI v j s d).2) : swI v j s (d + 1) = swI v j s d := if_pos h
theorem swI_n {v : Nat → Nat} {j : Nat} {s : Int32 × Nat} {d : Nat} (h : ¬ v (j + 1 + d) ≤ (swI v j s d).2) : swI v j s (d + 1) = (nI (10 * j + (j + 1 + d)), v (j + 1 + d)) := if_neg h
theorem swap52_e {h g : GS} {a : AH} (hh : HV h a) (hv : HV g a) (hi : HI a) {j : Nat} (hj : j < a.2 5) {s : Int32 × Nat} (hs : s.2 ≤ 288) (g0 : GS) : ∃ x, whO (mX7_swap_l52 h (s.1, nI s.2, nI j, g0)) FU (s.1, nI s.2, nI (j + 1), g) = some x ∧ ∃ n g', x = ((swI (fun k => frAll (exA a j k)) j s (a.2 5 - (j + 1))).1, nI (swI (fun k => frAll (exA a j k)) j s (a.2 5 - (j + 1))).2, n, g') ∧ HV g' a := by
  have hb := hi.nb
  refine whO_inv (fun (d : Nat) (x : Int32 × Int32 × Int32 × GS) => ∃ g', x = ((swI (fun k => frAll (exA a j k)) j s d).1, nI (swI (fun k => frAll (exA a j k)) j s d).2, nI (j + 1 + d), g') ∧ HV g' a) (a.2 5 - (j + 1)) _ ?_ ?_ _ ⟨g, rfl, hv⟩ (by omega)
  · rintro d x hlt ⟨g', rfl, e1⟩
    left
    obtain ⟨g2, c1, c2⟩ := exchange_e e1 hi hj (k := j + 1 + d) (by omega)
    obtain ⟨g3, d1, d2⟩ := exchange_e c2 (exA_hi hi hj (by omega)) (j := j) (k := j + 1 + d) hj (show j + 1 + d < a.2 5 by omega)
    rw [exA_exA] at d2
    have hf := frankOfAll_e c2 (exA_hi hi hj (by omega))
    have h288 := frAll_le (exA_hi hi hj (k := j + 1 + d) (by omega))
    have hm := swI_le (v := fun k => frAll (exA a j k)) (j := j) (b := a.2 5) (fun k hk => frAll_le (exA_hi hi hj hk)) hs d (by omega)
    unfold mX7_swap_l52
    by_cases hc : frAll (exA a j (j + 1 + d)) ≤ (swI (fun k => frAll (exA a j k)) j s d).2
    · refine ⟨_, ?_, g3, by rw [swI_y hc], d2⟩
      rw [show j + 1 + (d + 1) = j + 1 + d + 1 from rfl]
      simp (disch := omega) only [↓reduceIte, obs, esc_il, esc_ir, leT, leF, ltT, ltF, eqT, eqF, nleT, nleF, nltT, nltF, neqT, neqF, nI_add, pk_mul, ald_nI, ast_nI, irm_nI, idv_nI, zbT, zbF, in_T, in_F1, in_F2, nI_l, sI_1, sI_2, sA_1, sA_2, subK, add0, sub0, or0, lN_add, lN_mul, L_0, L_1, L_2, L_3, L_4, L_5, L_6, L_7, L_8, L_9, L_10, L_11, L_12, L_13, L_14, L_15, L_16, L_17, L_18, L_19, L_20, L_30, L_31, L_32, L_35, L_37, L_39, L_40, L_43, L_48, L_57, L_59, L_60, L_97, L_99, L_100, L_120, L_122, L_127, L_160, L_200, L_255, L_999, L_1000, L_100000, L_1000000, L_24, L_33, L_34, L_36, L_38, L_69, L_70, L_72, L_214, L_215, L_288, L_174, L_175, L_206, LL_0, LL_1, LL_2, LL_3, LL_5, LL_9, LL_10, LL_11, LL_12, LL_19, LL_20, LL_30, LL_39, LL_60, LL_99, LL_127, LL_999, hh.b, c1, d1, hf]
    · refine ⟨_, ?_, g3, by rw [swI_n hc], d2⟩
      rw [show j + 1 + (d + 1) = j + 1 + d + 1 from rfl]
      simp (disch := omega) only [↓reduceIte, obs, esc_il, esc_ir, leT, leF, ltT, ltF, eqT, eqF, nleT, nleF, nltT, nltF, neqT, neqF, nI_add, pk_mul, ald_nI, ast_nI, irm_nI, idv_nI, zbT, zbF, in_T, in_F1, in_F2, nI_l, sI_1, sI_2, sA_1, sA_2, subK, add0, sub0, or0, lN_add, lN_mul, L_0, L_1, L_2, L_3, L_4, L_5, L_6, L_7, L_8, L_9, L_10, L_11, L_12, L_13, L_14, L_15, L_16, L_17, L_18, L_19, L_20, L_30, L_31, L_32, L_35, L_37, L_39, L_40, L_43, L_48, L_57, L_59, L_60, L_97, L_99, L_100, L_120, L_122, L_127, L_160, L_200, L_255, L_999, L_1000, L_100000, L_1000000, L_24, L_33, L_34, L_36, L_38, L_69, L_70, L_72, L_214, L_215, L_288, L_174, L_175, L_206, LL_0, LL_1, LL_2, LL_3, LL_5, LL_9, LL_10, LL_11, LL_12, LL_19, LL_20, LL_30, LL_39, LL_60, LL_99, LL_127, LL_999, hh.b, c1, d1, hf]
  · rintro x ⟨g', rfl, e1⟩
    refine ⟨_, ?_, nI (j + 1 + (a.2 5 - (j + 1))), g', rfl, e1⟩
    unfold mX7_swap_l52
    simp (disch := omega) only [↓reduceIte, obs, esc_il, esc_ir, leT, leF, ltT, ltF, eqT, eqF, nleT, nleF, nltT, nltF, neqT, neqF, nI_add, pk_mul, ald_nI, ast_nI, irm_nI, idv_nI, zbT, zbF, in_T, in_F1, in_F2, nI_l, sI_1, sI_2, sA_1, sA_2, subK, add0, sub0, or0, lN_add, lN_mul, L_0, L_1, L_2, L_3, L_4, L_5, L_6, L_7, L_8, L_9, L_10, L_11, L_12, L_13, L_14, L_15, L_16, L_17, L_18, L_19, L_20, L_30, L_31, L_32, L_35, L_37, L_39, L_40, L_43, L_48, L_57, L_59, L_60, L_97, L_99, L_100, L_120, L_122, L_127, L_160, L_200, L_255, L_999, L_1000, L_100000, L_1000000, L_24, L_33, L_34, L_36, L_38, L_69, L_70, L_72, L_214, L_215, L_288, L_174, L_175, L_206, LL_0, LL_1, LL_2, LL_3, LL_5, LL_9, LL_10, LL_11, LL_12, LL_19, LL_20, LL_30, LL_39, LL_60, LL_99, LL_127, LL_999, hh.b]
theorem swap34_e {h g : GS} {a : AH} (hh : HV h a) (hv : HV g a) (hi : HI a) : ∃ x, whO (mX7_swap_l34 h) FU (-nI 4, nI (frAll a), nI 0, g) = some x ∧ ∃ n g', x = ((swO (fun j k => frAll (exA a j k)) (a.2 5) (-nI 4, frAll a) (a.2 5)).1, nI (swO (fun j k => frAll (exA a j k)) (a.2 5) (-nI 4, frAll a) (a.2 5)).2, n, g') := by
  have hb := hi.nb
  refine whO_inv (fun (j : Nat) (x : Int32 × Int32 × Int32 × GS) => ∃ g', x = ((swO (fun j k => frAll (exA a j k)) (a.2 5) (-nI 4, frAll a) j).1, nI (swO (fun j k => frAll (exA a j k)) (a.2 5) (-nI 4, frAll a) j).2, nI j, g') ∧ HV g' a) (a.2 5) _ ?_ ?_ _ ⟨g, rfl, hv⟩ (by omega)
  · rintro j x hlt ⟨g', rfl, e1⟩
    left
    have hm := swO_le (v := fun j k => frAll (exA a j k)) (b := a.2 5) (fun j k hj hk => frAll_le (exA_hi hi hj hk)) (s := (-nI 4, frAll a)) (frAll_le hi) j (by omega)
    obtain ⟨_, c1, n, g2, rfl, c2⟩ := swap52_e hh e1 hi hlt hm g'
    refine ⟨_, ?_, g2, rfl, c2⟩
    unfold mX7_swap_l34
    simp (disch := omega) only [↓reduceIte, obs, esc_il, esc_ir, leT, leF, ltT, ltF, eqT, eqF, nleT, nleF, nltT, nltF, neqT, neqF, nI_add, pk_mul, ald_nI, ast_nI, irm_nI, idv_nI, zbT, zbF, in_T, in_F1, in_F2, nI_l, sI_1, sI_2, sA_1, sA_2, subK, add0, sub0, or0, lN_add, lN_mul, L_0, L_1, L_2, L_3, L_4, L_5, L_6, L_7, L_8, L_9, L_10, L_11, L_12, L_13, L_14, L_15, L_16, L_17, L_18, L_19, L_20, L_30, L_31, L_32, L_35, L_37, L_39, L_40, L_43, L_48, L_57, L_59, L_60, L_97, L_99, L_100, L_120, L_122, L_127, L_160, L_200, L_255, L_999, L_1000, L_100000, L_1000000, L_24, L_33, L_34, L_36, L_38, L_69, L_70, L_72, L_214, L_215, L_288, L_174, L_175, L_206, LL_0, LL_1, LL_2, LL_3, LL_5, LL_9, LL_10, LL_11, LL_12, LL_19, LL_20, LL_30, LL_39, LL_60, LL_99, LL_127, LL_999, hh.b, c1, swO]
  · rintro x ⟨g', rfl, e1⟩
    refine ⟨_, ?_, nI (a.2 5), g', rfl⟩
    unfold mX7_swap_l34
    simp (disch := omega) only [↓reduceIte, obs, esc_il, esc_ir, leT, leF, ltT, ltF, eqT, eqF, nleT, nleF, nltT, nltF, neqT, neqF, nI_add, pk_mul, ald_nI, ast_nI, irm_nI, idv_nI, zbT, zbF, in_T, in_F1, in_F2, nI_l, sI_1, sI_2, sA_1, sA_2, subK, add0, sub0, or0, lN_add, lN_mul, L_0, L_1, L_2, L_3, L_4, L_5, L_6, L_7, L_8, L_9, L_10, L_11, L_12, L_13, L_14, L_15, L_16, L_17, L_18, L_19, L_20, L_30, L_31, L_32, L_35, L_37, L_39, L_40, L_43, L_48, L_57, L_59, L_60, L_97, L_99, L_100, L_120, L_122, L_127, L_160, L_200, L_255, L_999, L_1000, L_100000, L_1000000, L_24, L_33, L_34, L_36, L_38, L_69, L_70, L_72, L_214, L_215, L_288, L_174, L_175, L_206, LL_0, LL_1, LL_2, LL_3, LL_5, LL_9, LL_10, LL_11, LL_12, LL_19, LL_20, LL_30, LL_39, LL_60, LL_99, LL_127, LL_999, hh.b]
theorem swap42_e {M : GS} {f : Nat → Int32} {a : AH} (hp : PV f 0 a) (hi : HI a) (hf : Low (M.1 0) f) {j : Nat} (hj : j < a.2 5) {s : Int32 × Nat} (hs : s.2 ≤ 288) (g0 : GS) : ∃ x, whO (mX8_swap_l42 (nI s.2, s.1, nI j, g0)) FU (nI s.2, s.1, nI (j + 1), sA M 0 f) = some x ∧ ∃ n f', x = (nI (swI (fun k => frAll (exA a j k)) j s (a.2 5 - (j + 1))).2, (swI (fun k => frAll (exA a j k)) j s (a.2 5 - (j + 1))).1, n, sA M 0 f') ∧ Low (M.1 0) f' ∧ PV f' 0 a := by
  have hb := hi.nb
  refine whO_inv (fun (d : Nat) (x : Int32 × Int32 × Int32 × GS) => ∃ f', x = (nI (swI (fun k => frAll (exA a j k)) j s d).2, (swI (fun k => frAll (exA a j k)) j s d).1, nI (j + 1 + d), sA M 0 f') ∧ Low (M.1 0) f' ∧ PV f' 0 a) (a.2 5 - (j + 1)) _ ?_ ?_ _ ⟨f, rfl, hf, hp⟩ (by omega)
  · rintro d x hlt ⟨f', rfl, el, e1⟩
    left
    have e1' : PV ((sA M 0 f').1 0) 0 a := by rw [sA_s]; exact e1
    obtain ⟨f1, d1, d2, d3⟩ := copies_p (j := 200) e1' hi (by omega) (by omega) (by omega)
    rw [sA_s] at d3
    rw [sA_sA] at d1
    obtain ⟨n, f2, c1, c2, c3⟩ := swap65_e (M := M) (e1.frame hi d3 (by omega)) d2 hi hj (k := j + 1 + d) (by omega) (nI s.2) s.1 (nI (swI (fun k => frAll (exA a j k)) j s d).2) (swI (fun k => frAll (exA a j k)) j s d).1 g0 (sA M 0 f')
    have c2' : PV ((sA M 0 f2).1 0) 200 (exA a j (j + 1 + d)) := by rw [sA_s]; exact c2
    have hfa := frankOfAll8_e c2' (by decide) (exA_hi hi hj (by omega))
    have h288 := frAll_le (exA_hi hi hj (k := j + 1 + d) (by omega))
    have hm := swI_le (v := fun k => frAll (exA a j k)) (j := j) (b := a.2 5) (fun k hk => frAll_le (exA_hi hi hj hk)) hs d (by omega)
    have hlow := (el.tr (d3.low (by decide))).tr (c3.low (by decide))
    have hpv := (e1.frame hi d3 (by omega)).frame hi c3 (by omega)
    unfold mX8_swap_l42
    by_cases hc : frAll (exA a j (j + 1 + d)) ≤ (swI (fun k => frAll (exA a j k)) j s d).2
    · refine ⟨_, ?_, f2, by rw [swI_y hc], hlow, hpv⟩
      rw [show j + 1 + (d + 1) = j + 1 + d + 1 from rfl]
      simp (disch := omega) only [↓reduceIte, obs, esc_il, esc_ir, leT, leF, ltT, ltF, eqT, eqF, nleT, nleF, nltT, nltF, neqT, neqF, nI_add, pk_mul, ald_nI, ast_nI, irm_nI, idv_nI, zbT, zbF, in_T, in_F1, in_F2, nI_l, sI_1, sI_2, sA_1, sA_2, subK, add0, sub0, or0, lN_add, lN_mul, L_0, L_1, L_2, L_3, L_4, L_5, L_6, L_7, L_8, L_9, L_10, L_11, L_12, L_13, L_14, L_15, L_16, L_17, L_18, L_19, L_20, L_30, L_31, L_32, L_35, L_37, L_39, L_40, L_43, L_48, L_57, L_59, L_60, L_97, L_99, L_100, L_120, L_122, L_127, L_160, L_200, L_255, L_999, L_1000, L_100000, L_1000000, L_24, L_33, L_34, L_36, L_38, L_69, L_70, L_72, L_214, L_215, L_288, L_174, L_175, L_206, LL_0, LL_1, LL_2, LL_3, LL_5, LL_9, LL_10, LL_11, LL_12, LL_19, LL_20, LL_30, LL_39, LL_60, LL_99, LL_127, LL_999, sA_s, P0.b e1, d1, c1, hfa]
    · refine ⟨_, ?_, f2, by rw [swI_n hc], hlow, hpv⟩
      rw [show j + 1 + (d + 1) = j + 1 + d + 1 from rfl]
      simp (disch := omega) only [↓reduceIte, obs, esc_il, esc_ir, leT, leF, ltT, ltF, eqT, eqF, nleT, nleF, nltT, nltF, neqT, neqF, nI_add, pk_mul, ald_nI, ast_nI, irm_nI, idv_nI, zbT, zbF, in_T, in_F1, in_F2, nI_l, sI_1, sI_2, sA_1, sA_2, subK, add0, sub0, or0, lN_add, lN_mul, L_0, L_1, L_2, L_3, L_4, L_5, L_6, L_7, L_8, L_9, L_10, L_11, L_12, L_13, L_14, L_15, L_16, L_17, L_18, L_19, L_20, L_30, L_31, L_32, L_35, L_37, L_39, L_40, L_43, L_48, L_57, L_59, L_60, L_97, L_99, L_100, L_120, L_122, L_127, L_160, L_200, L_255, L_999, L_1000, L_100000, L_1000000, L_24, L_33, L_34, L_36, L_38, L_69, L_70, L_72, L_214, L_215, L_288, L_174, L_175, L_206, LL_0, LL_1, LL_2, LL_3, LL_5, LL_9, LL_10, LL_11, LL_12, LL_19, LL_20, LL_30, LL_39, LL_60, LL_99, LL_127, LL_999, sA_s, P0.b e1, d1, c1, hfa]
  · rintro x ⟨f', rfl, el, e1⟩
    refine ⟨_, ?_, nI (j + 1 + (a.2 5 - (j + 1))), f', rfl, el, e1⟩
    unfold mX8_swap_l42
    simp (disch := omega) only [↓reduceIte, obs, esc_il, esc_ir, leT, leF, ltT, ltF, eqT, eqF, nleT, nleF, nltT, nltF, neqT, neqF, nI_add, pk_mul, ald_nI, ast_nI, irm_nI, idv_nI, zbT, zbF, in_T, in_F1, in_F2, nI_l, sI_1, sI_2, sA_1, sA_2, subK, add0, sub0, or0, lN_add, lN_mul, L_0, L_1, L_2, L_3, L_4, L_5, L_6, L_7, L_8, L_9, L_10, L_11, L_12, L_13, L_14, L_15, L_16, L_17, L_18, L_19, L_20, L_30, L_31, L_32, L_35, L_37, L_39, L_40, L_43, L_48, L_57, L_59, L_60, L_97, L_99, L_100, L_120, L_122, L_127, L_160, L_200, L_255, L_999, L_1000, L_100000, L_1000000, L_24, L_33, L_34, L_36, L_38, L_69, L_70, L_72, L_214, L_215, L_288, L_174, L_175, L_206, LL_0, LL_1, LL_2, LL_3, LL_5, LL_9, LL_10, LL_11, LL_12, LL_19, LL_20, LL_30, LL_39, LL_60, LL_99, LL_127, LL_999, sA_s, P0.b e1]
theorem swap24_e {M : GS} {a : AH} (hp : PV (M.1 0) 0 a) (hi : HI a) : ∃ x, whO (mX8_swap_l24) FU (nI (frAll a), -nI 4, nI 0, M) = some x ∧ ∃ n f', x = (nI (swO (fun j k => frAll (exA a j k)) (a.2 5) (-nI 4, frAll a) (a.2 5)).2, (swO (fun j k => frAll (exA a j k)) (a.2 5) (-nI 4, frAll a) (a.2 5)).1, n, sA M 0 f') ∧ Low (M.1 0) f' := by
  have hb := hi.nb
  refine whO_inv (fun (j : Nat) (x : Int32 × Int32 × Int32 × GS) => ∃ f', x = (nI (swO (fun j k => frAll (exA a j k)) (a.2 5) (-nI 4, frAll a) j).2, (swO (fun j k => frAll (exA a j k)) (a.2 5) (-nI 4, frAll a) j).1, nI j, sA M 0 f') ∧ Low (M.1 0) f' ∧ PV f' 0 a) (a.2 5) _ ?_ ?_ _ ⟨M.1 0, by rw [sA_id]; rfl, Low.rf _, hp⟩ (by omega)
  · rintro j x hlt ⟨f', rfl, el, e1⟩
    left
    have hm := swO_le (v := fun j k => frAll (exA a j k)) (b := a.2 5) (fun j k hj hk => frAll_le (exA_hi hi hj hk)) (s := (-nI 4, frAll a)) (frAll_le hi) j (by omega)
    obtain ⟨_, c1, n, f2, rfl, c2, c3⟩ := swap42_e (M := M) e1 hi el hlt hm (sA M 0 f')
    refine ⟨_, ?_, f2, rfl, c2, c3⟩
    unfold mX8_swap_l24
    simp (disch := omega) only [↓reduceIte, obs, esc_il, esc_ir, leT, leF, ltT, ltF, eqT, eqF, nleT, nleF, nltT, nltF, neqT, neqF, nI_add, pk_mul, ald_nI, ast_nI, irm_nI, idv_nI, zbT, zbF, in_T, in_F1, in_F2, nI_l, sI_1, sI_2, sA_1, sA_2, subK, add0, sub0, or0, lN_add, lN_mul, L_0, L_1, L_2, L_3, L_4, L_5, L_6, L_7, L_8, L_9, L_10, L_11, L_12, L_13, L_14, L_15, L_16, L_17, L_18, L_19, L_20, L_30, L_31, L_32, L_35, L_37, L_39, L_40, L_43, L_48, L_57, L_59, L_60, L_97, L_99, L_100, L_120, L_122, L_127, L_160, L_200, L_255, L_999, L_1000, L_100000, L_1000000, L_24, L_33, L_34, L_36, L_38, L_69, L_70, L_72, L_214, L_215, L_288, L_174, L_175, L_206, LL_0, LL_1, LL_2, LL_3, LL_5, LL_9, LL_10, LL_11, LL_12, LL_19, LL_20, LL_30, LL_39, LL_60, LL_99, LL_127, LL_999, sA_s, P0.b e1, c1, swO]
  · rintro x ⟨f', rfl, el, e1⟩
    refine ⟨_, ?_, nI (a.2 5), f', rfl, el⟩
    unfold mX8_swap_l24
    simp (disch := omega) only [↓reduceIte, obs, esc_il, esc_ir, leT, leF, ltT, ltF, eqT, eqF, nleT, nleF, nltT, nltF, neqT, neqF, nI_add, pk_mul, ald_nI, ast_nI, irm_nI, idv_nI, zbT, zbF, in_T, in_F1, in_F2, nI_l, sI_1, sI_2, sA_1, sA_2, subK, add0, sub0, or0, lN_add, lN_mul, L_0, L_1, L_2, L_3, L_4, L_5, L_6, L_7, L_8, L_9, L_10, L_11, L_12, L_13, L_14, L_15, L_16, L_17, L_18, L_19, L_20, L_30, L_31, L_32, L_35, L_37, L_39, L_40, L_43, L_48, L_57, L_59, L_60, L_97, L_99, L_100, L_120, L_122, L_127, L_160, L_200, L_255, L_999, L_1000, L_100000, L_1000000, L_24, L_33, L_34, L_36, L_38, L_69, L_70, L_72, L_214, L_215, L_288, L_174, L_175, L_206, LL_0, LL_1, LL_2, LL_3, LL_5, LL_9, LL_10, LL_11, LL_12, LL_19, LL_20, LL_30, LL_39, LL_60, LL_99, LL_127, LL_999, sA_s, P0.b e1]
theorem st_swap {F : FS} {M : GS} (hR : Rel F M) (w : Int32) : ∃ (o : Int32 × GS) (o' : Int32 × GS), mX7_swap (F.1 0) (F.1 1) w = some o ∧ mX8_swap M w = some o' ∧ o.1 = o'.1 ∧ Rel ((va_up F.1 1 o.2), F.2.1, F.2.2) o'.2 := by
  obtain ⟨⟨a, hv, hp, hi, hy⟩, -⟩ := id hR
  have hb := hi.nb
  unfold mX7_swap mX8_swap
  rcases pair_cs w with ⟨h1, h2⟩ | hw
  · simp (disch := omega) only [↓reduceIte, obs, esc_il, esc_ir, leT, leF, ltT, ltF, eqT, eqF, nleT, nleF, nltT, nltF, neqT, neqF, nI_add, pk_mul, ald_nI, ast_nI, irm_nI, idv_nI, zbT, zbF, in_T, in_F1, in_F2, nI_l, sI_1, sI_2, sA_1, sA_2, subK, add0, sub0, or0, lN_add, lN_mul, L_0, L_1, L_2, L_3, L_4, L_5, L_6, L_7, L_8, L_9, L_10, L_11, L_12, L_13, L_14, L_15, L_16, L_17, L_18, L_19, L_20, L_30, L_31, L_32, L_35, L_37, L_39, L_40, L_43, L_48, L_57, L_59, L_60, L_97, L_99, L_100, L_120, L_122, L_127, L_160, L_200, L_255, L_999, L_1000, L_100000, L_1000000, L_24, L_33, L_34, L_36, L_38, L_69, L_70, L_72, L_214, L_215, L_288, L_174, L_175, L_206, LL_0, LL_1, LL_2, LL_3, LL_5, LL_9, LL_10, LL_11, LL_12, LL_19, LL_20, LL_30, LL_39, LL_60, LL_99, LL_127, LL_999, h1, h2]
    exact ⟨_, _, rfl, rfl, rfl, hR.same 1⟩
  obtain ⟨g1, c1, c2⟩ := copy_e (g := F.1 1) hv hi
  obtain ⟨_, k1, n1, g2, rfl⟩ := swap34_e hv c2 hi
  obtain ⟨_, k3, n2, f2, rfl, k2⟩ := swap24_e hp hi
  rcases hw with rfl | rfl
  all_goals
    simp (disch := omega) only [↓reduceIte, obs, esc_il, esc_ir, leT, leF, ltT, ltF, eqT, eqF, nleT, nleF, nltT, nltF, neqT, neqF, nI_add, pk_mul, ald_nI, ast_nI, irm_nI, idv_nI, zbT, zbF, in_T, in_F1, in_F2, nI_l, sI_1, sI_2, sA_1, sA_2, subK, add0, sub0, or0, lN_add, lN_mul, L_0, L_1, L_2, L_3, L_4, L_5, L_6, L_7, L_8, L_9, L_10, L_11, L_12, L_13, L_14, L_15, L_16, L_17, L_18, L_19, L_20, L_30, L_31, L_32, L_35, L_37, L_39, L_40, L_43, L_48, L_57, L_59, L_60, L_97, L_99, L_100, L_120, L_122, L_127, L_160, L_200, L_255, L_999, L_1000, L_100000, L_1000000, L_24, L_33, L_34, L_36, L_38, L_69, L_70, L_72, L_214, L_215, L_288, L_174, L_175, L_206, LL_0, LL_1, LL_2, LL_3, LL_5, LL_9, LL_10, LL_11, LL_12, LL_19, LL_20, LL_30, LL_39, LL_60, LL_99, LL_127, LL_999, np0, np1, c1, k1, k3, frankOfAll_e hv hi, frankOfAll8_e hp (by decide) hi]
    by_cases hB : (swO (fun j k => frAll (exA a j k)) (a.2 5) (-nI 4, frAll a) (a.2 5)).1 = -nI 4
    · simp only [if_pos hB, obs, esc_il]
      exact ⟨_, _, rfl, rfl, rfl, hR.scratch _ k2⟩
    · simp only [if_neg hB, obs, esc_il, esc_ir]
      exact ⟨_, _, rfl, rfl, rfl, hR.scratch _ k2⟩
/-- what was seen: n of them, where, how frank -/
def SnC (me : GS) (n : Nat) (si sv : Nat → Nat) : Prop := n ≤ 6 ∧ me.2 2 = nI n ∧ ∀ j, j < n → si j < 12 ∧ sv j < 100 ∧ me.1 0 j = nI (si j) ∧ me.1 1 j = nI (sv j)
def SnR (G : GS) (n : Nat) (si sv : Nat → Nat) : Prop := n ≤ 6 ∧ G.2 17 = nI n ∧ ∀ j, j < n → si j < 12 ∧ sv j < 100 ∧ G.1 16 (2 * j) = nI (si j) ∧ G.1 16 (2 * j + 1) = nI (sv j)
theorem RelS.fn {F : FS} {M : GS} (h : RelS F M) : ∃ n si sv, SnC (F.1 6) n si sv ∧ SnR M n si sv := by
  obtain ⟨n, h1, h2, h3, h4⟩ := h
  refine ⟨n, fun j => ((F.1 6).1 0 j).toNatClampNeg, fun j => ((F.1 6).1 1 j).toNatClampNeg, ⟨h1, h2, fun j hj => ?_⟩, h1, h3, fun j hj => ?_⟩
  · obtain ⟨i, v, e1, e2, e3, e4, e5, e6⟩ := h4 j hj
    simp only [e3, e4]
    rw [nI_clamp (by omega), nI_clamp (by omega)]
    exact ⟨e1, e2, rfl, rfl⟩
  · obtain ⟨i, v, e1, e2, e3, e4, e5, e6⟩ := h4 j hj
    simp only [e3, e4]
    rw [nI_clamp (by omega), nI_clamp (by omega)]
    exact ⟨e1, e2, e5, e6⟩
def ftB (a : AH) (si sv : Nat → Nat) (j : Nat) : Bool := decide (si j < a.2 6) && (frN a (si j) == sv j)
theorem fits_e {me k : GS} {a : AH} {n : Nat} {si sv : Nat → Nat} (hs : SnC me n si sv) (hv : HV k a) (hi : HI a) : mX3_fits me k = some (nI (bN (alB (ftB a si sv) n))) := by
  obtain ⟨h1, h2, h3⟩ := hs
  have hb := hi.nb
  unfold mX3_fits
  have hL : ∃ x, whO (mX3_fits_l8 me k) FU (0 : Int32) = some x ∧ (((∃ z, x = .inl z) ∧ alB (ftB a si sv) n = true) ∨ (x = .inr (nI 0) ∧ alB (ftB a si sv) n = false)) := by
    refine whO_inv (fun (i : Nat) (s : Int32) => s = nI i ∧ alB (ftB a si sv) i = true) n _ ?_ ?_ _ ⟨rfl, rfl⟩ (by omega)
    · rintro i s hlt ⟨rfl, e⟩
      obtain ⟨s1, s2, s3, s4⟩ := h3 i hlt
      have h24 := frN_le hi (si i)
      unfold mX3_fits_l8
      by_cases c1 : si i < a.2 6
      · by_cases c2 : frN a (si i) = sv i
        · left
          refine ⟨nI (i + 1), ?_, rfl, ?_⟩
          · simp (disch := omega) only [↓reduceIte, obs, esc_il, esc_ir, leT, leF, ltT, ltF, eqT, eqF, nleT, nleF, nltT, nltF, neqT, neqF, nI_add, pk_mul, ald_nI, ast_nI, irm_nI, idv_nI, zbT, zbF, in_T, in_F1, in_F2, nI_l, sI_1, sI_2, sA_1, sA_2, subK, add0, sub0, or0, lN_add, lN_mul, L_0, L_1, L_2, L_3, L_4, L_5, L_6, L_7, L_8, L_9, L_10, L_11, L_12, L_13, L_14, L_15, L_16, L_17, L_18, L_19, L_20, L_30, L_31, L_32, L_35, L_37, L_39, L_40, L_43, L_48, L_57, L_59, L_60, L_97, L_99, L_100, L_120, L_122, L_127, L_160, L_200, L_255, L_999, L_1000, L_100000, L_1000000, L_24, L_33, L_34, L_36, L_38, L_69, L_70, L_72, L_214, L_215, L_288, L_174, L_175, L_206, LL_0, LL_1, LL_2, LL_3, LL_5, LL_9, LL_10, LL_11, LL_12, LL_19, LL_20, LL_30, LL_39, LL_60, LL_99, LL_127, LL_999, h2, s3, s4, hasPlace_e hv hi, frankAt_e hv hi]
          · rw [alB_y (by unfold ftB; rw [decide_eq_true c1, c2]; simp)]; exact e
        · right
          refine ⟨_, ?_, Or.inr ⟨rfl, ?_⟩⟩
          · simp (disch := omega) only [↓reduceIte, obs, esc_il, esc_ir, leT, leF, ltT, ltF, eqT, eqF, nleT, nleF, nltT, nltF, neqT, neqF, nI_add, pk_mul, ald_nI, ast_nI, irm_nI, idv_nI, zbT, zbF, in_T, in_F1, in_F2, nI_l, sI_1, sI_2, sA_1, sA_2, subK, add0, sub0, or0, lN_add, lN_mul, L_0, L_1, L_2, L_3, L_4, L_5, L_6, L_7, L_8, L_9, L_10, L_11, L_12, L_13, L_14, L_15, L_16, L_17, L_18, L_19, L_20, L_30, L_31, L_32, L_35, L_37, L_39, L_40, L_43, L_48, L_57, L_59, L_60, L_97, L_99, L_100, L_120, L_122, L_127, L_160, L_200, L_255, L_999, L_1000, L_100000, L_1000000, L_24, L_33, L_34, L_36, L_38, L_69, L_70, L_72, L_214, L_215, L_288, L_174, L_175, L_206, LL_0, LL_1, LL_2, LL_3, LL_5, LL_9, LL_10, LL_11, LL_12, LL_19, LL_20, LL_30, LL_39, LL_60, LL_99, LL_127, LL_999, h2, s3, s4, hasPlace_e hv hi, frankAt_e hv hi]
          · have := alB_z (alB_n (P := ftB a si sv) (n := i) (by unfold ftB; simp [c2])) (n - (i + 1))
            rwa [show i + 1 + (n - (i + 1)) = n by omega] at this
      · right
        refine ⟨_, ?_, Or.inr ⟨rfl, ?_⟩⟩
        · simp (disch := omega) only [↓reduceIte, obs, esc_il, esc_ir, leT, leF, ltT, ltF, eqT, eqF, nleT, nleF, nltT, nltF, neqT, neqF, nI_add, pk_mul, ald_nI, ast_nI, irm_nI, idv_nI, zbT, zbF, in_T, in_F1, in_F2, nI_l, sI_1, sI_2, sA_1, sA_2, subK, add0, sub0, or0, lN_add, lN_mul, L_0, L_1, L_2, L_3, L_4, L_5, L_6, L_7, L_8, L_9, L_10, L_11, L_12, L_13, L_14, L_15, L_16, L_17, L_18, L_19, L_20, L_30, L_31, L_32, L_35, L_37, L_39, L_40, L_43, L_48, L_57, L_59, L_60, L_97, L_99, L_100, L_120, L_122, L_127, L_160, L_200, L_255, L_999, L_1000, L_100000, L_1000000, L_24, L_33, L_34, L_36, L_38, L_69, L_70, L_72, L_214, L_215, L_288, L_174, L_175, L_206, LL_0, LL_1, LL_2, LL_3, LL_5, LL_9, LL_10, LL_11, LL_12, LL_19, LL_20, LL_30, LL_39, LL_60, LL_99, LL_127, LL_999, h2, s3, s4, hasPlace_e hv hi]
        · have := alB_z (alB_n (P := ftB a si sv) (n := i) (by unfold ftB; simp [c1])) (n - (i + 1))
          rwa [show i + 1 + (n - (i + 1)) = n by omega] at this
    · rintro s ⟨rfl, e⟩
      refine ⟨_, ?_, Or.inl ⟨⟨nI n, rfl⟩, e⟩⟩
      unfold mX3_fits_l8
      simp (disch := omega) only [↓reduceIte, obs, esc_il, esc_ir, leT, leF, ltT, ltF, eqT, eqF, nleT, nleF, nltT, nltF, neqT, neqF, nI_add, pk_mul, ald_nI, ast_nI, irm_nI, idv_nI, zbT, zbF, in_T, in_F1, in_F2, nI_l, sI_1, sI_2, sA_1, sA_2, subK, add0, sub0, or0, lN_add, lN_mul, L_0, L_1, L_2, L_3, L_4, L_5, L_6, L_7, L_8, L_9, L_10, L_11, L_12, L_13, L_14, L_15, L_16, L_17, L_18, L_19, L_20, L_30, L_31, L_32, L_35, L_37, L_39, L_40, L_43, L_48, L_57, L_59, L_60, L_97, L_99, L_100, L_120, L_122, L_127, L_160, L_200, L_255, L_999, L_1000, L_100000, L_1000000, L_24, L_33, L_34, L_36, L_38, L_69, L_70, L_72, L_214, L_215, L_288, L_174, L_175, L_206, LL_0, LL_1, LL_2, LL_3, LL_5, LL_9, LL_10, LL_11, LL_12, LL_19, LL_20, LL_30, LL_39, LL_60, LL_99, LL_127, LL_999, h2]
  obtain ⟨x, x1, x2⟩ := hL
  rw [x1, obs]
  exact esc_all x2
theorem rtZ_b (b : Bool) : rtZ (nI (bN b)) = some (nI (bN b)) := by cases b <;> rfl
theorem isAsSeen_e {G : GS} {a : AH} {p n : Nat} {si sv : Nat → Nat} (hs : SnR G n si sv) (hp : PV (G.1 0) p a) (hp2 : p + 40 ≤ 240) (hi : HI a) : mX8_isAsSeen G (nI p) = some (nI (bN (alB (ftB a si sv) n))) := by
  obtain ⟨h1, h2, h3⟩ := hs
  have hb := hi.nb
  unfold mX8_isAsSeen
  rw [whO_for (fun i => (nI (bN (alB (ftB a si sv) i)), nI i)) n (nI (bN (alB (ftB a si sv) n)), nI n) (by rfl) ?_ ?_ (by omega)]
  · rw [obs, rtZ_b, obs]
  · intro i hlt
    obtain ⟨s1, s2, s3, s4⟩ := h3 i hlt
    have h24 := frN_le hi (si i)
    unfold mX8_isAsSeen_l4
    cases he : alB (ftB a si sv) i
    · have e2 := alB_z he 1
      simp (disch := omega) only [↓reduceIte, obs, esc_il, esc_ir, leT, leF, ltT, ltF, eqT, eqF, nleT, nleF, nltT, nltF, neqT, neqF, nI_add, pk_mul, ald_nI, ast_nI, irm_nI, idv_nI, zbT, zbF, in_T, in_F1, in_F2, nI_l, sI_1, sI_2, sA_1, sA_2, subK, add0, sub0, or0, lN_add, lN_mul, L_0, L_1, L_2, L_3, L_4, L_5, L_6, L_7, L_8, L_9, L_10, L_11, L_12, L_13, L_14, L_15, L_16, L_17, L_18, L_19, L_20, L_30, L_31, L_32, L_35, L_37, L_39, L_40, L_43, L_48, L_57, L_59, L_60, L_97, L_99, L_100, L_120, L_122, L_127, L_160, L_200, L_255, L_999, L_1000, L_100000, L_1000000, L_24, L_33, L_34, L_36, L_38, L_69, L_70, L_72, L_214, L_215, L_288, L_174, L_175, L_206, LL_0, LL_1, LL_2, LL_3, LL_5, LL_9, LL_10, LL_11, LL_12, LL_19, LL_20, LL_30, LL_39, LL_60, LL_99, LL_127, LL_999, h2, he, e2, bN, Bool.false_eq_true]
    · rw [alB, he, Bool.true_and]
      by_cases c1 : si i < a.2 6
      · by_cases c2 : frN a (si i) = sv i
        · have e : ftB a si sv i = true := by unfold ftB; rw [decide_eq_true c1, c2]; simp
          simp (disch := omega) only [↓reduceIte, obs, esc_il, esc_ir, leT, leF, ltT, ltF, eqT, eqF, nleT, nleF, nltT, nltF, neqT, neqF, nI_add, pk_mul, ald_nI, ast_nI, irm_nI, idv_nI, zbT, zbF, in_T, in_F1, in_F2, nI_l, sI_1, sI_2, sA_1, sA_2, subK, add0, sub0, or0, lN_add, lN_mul, L_0, L_1, L_2, L_3, L_4, L_5, L_6, L_7, L_8, L_9, L_10, L_11, L_12, L_13, L_14, L_15, L_16, L_17, L_18, L_19, L_20, L_30, L_31, L_32, L_35, L_37, L_39, L_40, L_43, L_48, L_57, L_59, L_60, L_97, L_99, L_100, L_120, L_122, L_127, L_160, L_200, L_255, L_999, L_1000, L_100000, L_1000000, L_24, L_33, L_34, L_36, L_38, L_69, L_70, L_72, L_214, L_215, L_288, L_174, L_175, L_206, LL_0, LL_1, LL_2, LL_3, LL_5, LL_9, LL_10, LL_11, LL_12, LL_19, LL_20, LL_30, LL_39, LL_60, LL_99, LL_127, LL_999, h2, e, bN, s3, s4, longOn_e hp hp2, frankOn_e hp hp2 hi]
        · have e : ftB a si sv i = false := by unfold ftB; simp [c2]
          simp (disch := omega) only [↓reduceIte, obs, esc_il, esc_ir, leT, leF, ltT, ltF, eqT, eqF, nleT, nleF, nltT, nltF, neqT, neqF, nI_add, pk_mul, ald_nI, ast_nI, irm_nI, idv_nI, zbT, zbF, in_T, in_F1, in_F2, nI_l, sI_1, sI_2, sA_1, sA_2, subK, add0, sub0, or0, lN_add, lN_mul, L_0, L_1, L_2, L_3, L_4, L_5, L_6, L_7, L_8, L_9, L_10, L_11, L_12, L_13, L_14, L_15, L_16, L_17, L_18, L_19, L_20, L_30, L_31, L_32, L_35, L_37, L_39, L_40, L_43, L_48, L_57, L_59, L_60, L_97, L_99, L_100, L_120, L_122, L_127, L_160, L_200, L_255, L_999, L_1000, L_100000, L_1000000, L_24, L_33, L_34, L_36, L_38, L_69, L_70, L_72, L_214, L_215, L_288, L_174, L_175, L_206, LL_0, LL_1, LL_2, LL_3, LL_5, LL_9, LL_10, LL_11, LL_12, LL_19, LL_20, LL_30, LL_39, LL_60, LL_99, LL_127, LL_999, h2, e, bN, s3, s4, longOn_e hp hp2, frankOn_e hp hp2 hi, Bool.false_eq_true]
      · have e : ftB a si sv i = false := by unfold ftB; simp [c1]
        simp (disch := omega) only [↓reduceIte, obs, esc_il, esc_ir, leT, leF, ltT, ltF, eqT, eqF, nleT, nleF, nltT, nltF, neqT, neqF, nI_add, pk_mul, ald_nI, ast_nI, irm_nI, idv_nI, zbT, zbF, in_T, in_F1, in_F2, nI_l, sI_1, sI_2, sA_1, sA_2, subK, add0, sub0, or0, lN_add, lN_mul, L_0, L_1, L_2, L_3, L_4, L_5, L_6, L_7, L_8, L_9, L_10, L_11, L_12, L_13, L_14, L_15, L_16, L_17, L_18, L_19, L_20, L_30, L_31, L_32, L_35, L_37, L_39, L_40, L_43, L_48, L_57, L_59, L_60, L_97, L_99, L_100, L_120, L_122, L_127, L_160, L_200, L_255, L_999, L_1000, L_100000, L_1000000, L_24, L_33, L_34, L_36, L_38, L_69, L_70, L_72, L_214, L_215, L_288, L_174, L_175, L_206, LL_0, LL_1, LL_2, LL_3, LL_5, LL_9, LL_10, LL_11, LL_12, LL_19, LL_20, LL_30, LL_39, LL_60, LL_99, LL_127, LL_999, h2, e, bN, s3, s4, longOn_e hp hp2, Bool.false_eq_true]
  · unfold mX8_isAsSeen_l4
    simp (disch := omega) only [↓reduceIte, obs, esc_il, esc_ir, leT, leF, ltT, ltF, eqT, eqF, nleT, nleF, nltT, nltF, neqT, neqF, nI_add, pk_mul, ald_nI, ast_nI, irm_nI, idv_nI, zbT, zbF, in_T, in_F1, in_F2, nI_l, sI_1, sI_2, sA_1, sA_2, subK, add0, sub0, or0, lN_add, lN_mul, L_0, L_1, L_2, L_3, L_4, L_5, L_6, L_7, L_8, L_9, L_10, L_11, L_12, L_13, L_14, L_15, L_16, L_17, L_18, L_19, L_20, L_30, L_31, L_32, L_35, L_37, L_39, L_40, L_43, L_48, L_57, L_59, L_60, L_97, L_99, L_100, L_120, L_122, L_127, L_160, L_200, L_255, L_999, L_1000, L_100000, L_1000000, L_24, L_33, L_34, L_36, L_38, L_69, L_70, L_72, L_214, L_215, L_288, L_174, L_175, L_206, LL_0, LL_1, LL_2, LL_3, LL_5, LL_9, LL_10, LL_11, LL_12, LL_19, LL_20, LL_30, LL_39, LL_60, LL_99, LL_127, LL_999, h2]
theorem SnR.sA0 {G : GS} {n : Nat} {si sv : Nat → Nat} (h : SnR G n si sv) (f : Nat → Int32) : SnR (sA G 0 f) n si sv := h
theorem aA_aA (a : AH) (k j v w : Nat) : aA (aA a k j v) k j w = aA a k j w := by
  refine Prod.ext ?_ rfl
  show va_up (va_up a.1 k (va_up (a.1 k) j v)) k (va_up (va_up a.1 k (va_up (a.1 k) j v) k) j w) = va_up a.1 k (va_up (a.1 k) j w)
  rw [bx_uu, up_e, if_pos rfl, bx_uu]
theorem aA_id (a : AH) (k j : Nat) : aA a k j (a.1 k j) = a := by
  refine Prod.ext ?_ rfl
  show va_up a.1 k (va_up (a.1 k) j (a.1 k j)) = a.1
  rw [up_id2, up_id2]
theorem kw7_0 {me g : GS} {a : AH} {n : Nat} {si sv : Nat → Nat} (hs : SnC me n si sv) (hv : HV g a) (hi : HI a) {j : Nat} (hj : j < a.2 5) : ∃ x, whO (mX7_kinds_l28 me (nI j)) FU (nI 0, nI 0, g) = some x ∧ ∃ m g', x = (orZ (fun v => alB (ftB (aA a 0 j v) si sv) n) 4, m, g') := by
  have hb := hi.nb
  refine whO_inv (fun (i : Nat) (s : Int32 × Int32 × GS) => ∃ g v, s = (orZ (fun v => alB (ftB (aA a 0 j v) si sv) n) i, nI i, g) ∧ HV g (aA a 0 j v)) 4 _ ?_ ?_ _ ⟨g, a.1 0 j, rfl, by rw [aA_id]; exact hv⟩ (by decide)
  · rintro i s hlt ⟨g, v, rfl, e1⟩
    left
    have e2 := e1.a0 j i
    rw [aA_aA] at e2
    have hi' := hi.a0 j i (by omega)
    have hf := fits_e hs e2 hi'
    refine ⟨_, ?_, sA g 0 (upd (g.1 0) j (nI i)), i, rfl, e2⟩
    unfold mX7_kinds_l28
    cases hx : alB (ftB (aA a 0 j i) si sv) n
    · rw [orZ_n (P := fun v => alB (ftB (aA a 0 j v) si sv) n) hx]
      rw [hx] at hf
      simp (disch := omega) only [↓reduceIte, obs, esc_il, esc_ir, leT, leF, ltT, ltF, eqT, eqF, nleT, nleF, nltT, nltF, neqT, neqF, nI_add, pk_mul, ald_nI, ast_nI, irm_nI, idv_nI, zbT, zbF, in_T, in_F1, in_F2, nI_l, sI_1, sI_2, sA_1, sA_2, subK, add0, sub0, or0, lN_add, lN_mul, L_0, L_1, L_2, L_3, L_4, L_5, L_6, L_7, L_8, L_9, L_10, L_11, L_12, L_13, L_14, L_15, L_16, L_17, L_18, L_19, L_20, L_30, L_31, L_32, L_35, L_37, L_39, L_40, L_43, L_48, L_57, L_59, L_60, L_97, L_99, L_100, L_120, L_122, L_127, L_160, L_200, L_255, L_999, L_1000, L_100000, L_1000000, L_24, L_33, L_34, L_36, L_38, L_69, L_70, L_72, L_214, L_215, L_288, L_174, L_175, L_206, LL_0, LL_1, LL_2, LL_3, LL_5, LL_9, LL_10, LL_11, LL_12, LL_19, LL_20, LL_30, LL_39, LL_60, LL_99, LL_127, LL_999, hf, bN, Bool.false_eq_true]
    · rw [orZ_y (P := fun v => alB (ftB (aA a 0 j v) si sv) n) hx]
      rw [hx] at hf
      simp (disch := omega) only [↓reduceIte, obs, esc_il, esc_ir, leT, leF, ltT, ltF, eqT, eqF, nleT, nleF, nltT, nltF, neqT, neqF, nI_add, pk_mul, ald_nI, ast_nI, irm_nI, idv_nI, zbT, zbF, in_T, in_F1, in_F2, nI_l, sI_1, sI_2, sA_1, sA_2, subK, add0, sub0, or0, lN_add, lN_mul, L_0, L_1, L_2, L_3, L_4, L_5, L_6, L_7, L_8, L_9, L_10, L_11, L_12, L_13, L_14, L_15, L_16, L_17, L_18, L_19, L_20, L_30, L_31, L_32, L_35, L_37, L_39, L_40, L_43, L_48, L_57, L_59, L_60, L_97, L_99, L_100, L_120, L_122, L_127, L_160, L_200, L_255, L_999, L_1000, L_100000, L_1000000, L_24, L_33, L_34, L_36, L_38, L_69, L_70, L_72, L_214, L_215, L_288, L_174, L_175, L_206, LL_0, LL_1, LL_2, LL_3, LL_5, LL_9, LL_10, LL_11, LL_12, LL_19, LL_20, LL_30, LL_39, LL_60, LL_99, LL_127, LL_999, hf, bN]
  · rintro s ⟨g, v, rfl, e1⟩
    refine ⟨_, ?_, nI 4, g, rfl⟩
    unfold mX7_kinds_l28
    simp (disch := omega) only [↓reduceIte, obs, esc_il, esc_ir, leT, leF, ltT, ltF, eqT, eqF, nleT, nleF, nltT, nltF, neqT, neqF, nI_add, pk_mul, ald_nI, ast_nI, irm_nI, idv_nI, zbT, zbF, in_T, in_F1, in_F2, nI_l, sI_1, sI_2, sA_1, sA_2, subK, add0, sub0, or0, lN_add, lN_mul, L_0, L_1, L_2, L_3, L_4, L_5, L_6, L_7, L_8, L_9, L_10, L_11, L_12, L_13, L_14, L_15, L_16, L_17, L_18, L_19, L_20, L_30, L_31, L_32, L_35, L_37, L_39, L_40, L_43, L_48, L_57, L_59, L_60, L_97, L_99, L_100, L_120, L_122, L_127, L_160, L_200, L_255, L_999, L_1000, L_100000, L_1000000, L_24, L_33, L_34, L_36, L_38, L_69, L_70, L_72, L_214, L_215, L_288, L_174, L_175, L_206, LL_0, LL_1, LL_2, LL_3, LL_5, LL_9, LL_10, LL_11, LL_12, LL_19, LL_20, LL_30, LL_39, LL_60, LL_99, LL_127, LL_999]
theorem kw8_0 {M : GS} {f : Nat → Int32} {a : AH} {n : Nat} {si sv : Nat → Nat} (hs : SnR M n si sv) (hp : PV f 200 a) (hi : HI a) (hf : Low (M.1 0) f) {j : Nat} (hj : j < a.2 5) : ∃ x, whO (mX8_kinds_l22 (nI j)) FU (nI 0, nI 0, sA M 0 f) = some x ∧ ∃ m f', Low (M.1 0) f' ∧ x = (orZ (fun v => alB (ftB (aA a 0 j v) si sv) n) 4, m, sA M 0 f') := by
  have hb := hi.nb
  have hk0 := hi.kd hj
  have hw0 := hi.wm hj
  refine whO_inv (fun (i : Nat) (s : Int32 × Int32 × GS) => ∃ f v, s = (orZ (fun v => alB (ftB (aA a 0 j v) si sv) n) i, nI i, sA M 0 f) ∧ Low (M.1 0) f ∧ v < 4 ∧ PV f 200 (aA a 0 j v)) 4 _ ?_ ?_ _ ⟨f, a.1 0 j, rfl, hf, by omega, by rw [aA_id]; exact hp⟩ (by decide)
  · rintro i s hlt ⟨f, v, rfl, el, ev, e1⟩
    left
    have e2 := e1.a0 (hi.a0 j v ev) j i hj
    rw [aA_aA] at e2
    have hi' := hi.a0 j i (by omega)
    have e2' : PV ((sA M 0 (upd f (200 + j) (nI i))).1 0) 200 (aA a 0 j i) := by rw [sA_s]; exact e2
    have hq := isAsSeen_e (hs.sA0 (upd f (200 + j) (nI i))) e2' (by decide) hi'
    refine ⟨_, ?_, upd f (200 + j) (nI i), i, rfl, el.up _ (by omega) _, by omega, e2⟩
    unfold mX8_kinds_l22
    cases hx : alB (ftB (aA a 0 j i) si sv) n
    · rw [orZ_n (P := fun v => alB (ftB (aA a 0 j v) si sv) n) hx]
      rw [hx] at hq
      simp (disch := omega) only [↓reduceIte, obs, esc_il, esc_ir, leT, leF, ltT, ltF, eqT, eqF, nleT, nleF, nltT, nltF, neqT, neqF, nI_add, pk_mul, ald_nI, ast_nI, irm_nI, idv_nI, zbT, zbF, in_T, in_F1, in_F2, nI_l, sI_1, sI_2, sA_1, sA_2, subK, add0, sub0, or0, lN_add, lN_mul, L_0, L_1, L_2, L_3, L_4, L_5, L_6, L_7, L_8, L_9, L_10, L_11, L_12, L_13, L_14, L_15, L_16, L_17, L_18, L_19, L_20, L_30, L_31, L_32, L_35, L_37, L_39, L_40, L_43, L_48, L_57, L_59, L_60, L_97, L_99, L_100, L_120, L_122, L_127, L_160, L_200, L_255, L_999, L_1000, L_100000, L_1000000, L_24, L_33, L_34, L_36, L_38, L_69, L_70, L_72, L_214, L_215, L_288, L_174, L_175, L_206, LL_0, LL_1, LL_2, LL_3, LL_5, LL_9, LL_10, LL_11, LL_12, LL_19, LL_20, LL_30, LL_39, LL_60, LL_99, LL_127, LL_999, sA_s, sA_sA, hq, bN, Bool.false_eq_true]
    · rw [orZ_y (P := fun v => alB (ftB (aA a 0 j v) si sv) n) hx]
      rw [hx] at hq
      simp (disch := omega) only [↓reduceIte, obs, esc_il, esc_ir, leT, leF, ltT, ltF, eqT, eqF, nleT, nleF, nltT, nltF, neqT, neqF, nI_add, pk_mul, ald_nI, ast_nI, irm_nI, idv_nI, zbT, zbF, in_T, in_F1, in_F2, nI_l, sI_1, sI_2, sA_1, sA_2, subK, add0, sub0, or0, lN_add, lN_mul, L_0, L_1, L_2, L_3, L_4, L_5, L_6, L_7, L_8, L_9, L_10, L_11, L_12, L_13, L_14, L_15, L_16, L_17, L_18, L_19, L_20, L_30, L_31, L_32, L_35, L_37, L_39, L_40, L_43, L_48, L_57, L_59, L_60, L_97, L_99, L_100, L_120, L_122, L_127, L_160, L_200, L_255, L_999, L_1000, L_100000, L_1000000, L_24, L_33, L_34, L_36, L_38, L_69, L_70, L_72, L_214, L_215, L_288, L_174, L_175, L_206, LL_0, LL_1, LL_2, LL_3, LL_5, LL_9, LL_10, LL_11, LL_12, LL_19, LL_20, LL_30, LL_39, LL_60, LL_99, LL_127, LL_999, sA_s, sA_sA, hq, bN]
  · rintro s ⟨f, v, rfl, el, ev, e1⟩
    refine ⟨_, ?_, nI 4, f, el, rfl⟩
    unfold mX8_kinds_l22
    simp (disch := omega) only [↓reduceIte, obs, esc_il, esc_ir, leT, leF, ltT, ltF, eqT, eqF, nleT, nleF, nltT, nltF, neqT, neqF, nI_add, pk_mul, ald_nI, ast_nI, irm_nI, idv_nI, zbT, zbF, in_T, in_F1, in_F2, nI_l, sI_1, sI_2, sA_1, sA_2, subK, add0, sub0, or0, lN_add, lN_mul, L_0, L_1, L_2, L_3, L_4, L_5, L_6, L_7, L_8, L_9, L_10, L_11, L_12, L_13, L_14, L_15, L_16, L_17, L_18, L_19, L_20, L_30, L_31, L_32, L_35, L_37, L_39, L_40, L_43, L_48, L_57, L_59, L_60, L_97, L_99, L_100, L_120, L_122, L_127, L_160, L_200, L_255, L_999, L_1000, L_100000, L_1000000, L_24, L_33, L_34, L_36, L_38, L_69, L_70, L_72, L_214, L_215, L_288, L_174, L_175, L_206, LL_0, LL_1, LL_2, LL_3, LL_5, LL_9, LL_10, LL_11, LL_12, LL_19, LL_20, LL_30, LL_39, LL_60, LL_99, LL_127, LL_999]
theorem st_kinds {F : FS} {M : GS} (hR : Rel F M) (j : Int32) : ∃ (o : Int32 × GS) (o' : Int32 × GS), mX7_kinds (F.1 0) (F.1 1) (F.1 6) j = some o ∧ mX8_kinds M j = some o' ∧ o.1 = o'.1 ∧ Rel ((va_up F.1 1 o.2), F.2.1, F.2.2) o'.2 := by
  obtain ⟨⟨a, hv, hp, hi, hy⟩, -⟩ := id hR
  obtain ⟨n, si, sv, sc, sr⟩ := hR.S.fn
  have hb := hi.nb
  unfold mX7_kinds mX8_kinds
  rcases cs2 j with h | ⟨k, hk, rfl⟩
  · simp (disch := omega) only [↓reduceIte, obs, esc_il, esc_ir, leT, leF, ltT, ltF, eqT, eqF, nleT, nleF, nltT, nltF, neqT, neqF, nI_add, pk_mul, ald_nI, ast_nI, irm_nI, idv_nI, zbT, zbF, in_T, in_F1, in_F2, nI_l, sI_1, sI_2, sA_1, sA_2, subK, add0, sub0, or0, lN_add, lN_mul, L_0, L_1, L_2, L_3, L_4, L_5, L_6, L_7, L_8, L_9, L_10, L_11, L_12, L_13, L_14, L_15, L_16, L_17, L_18, L_19, L_20, L_30, L_31, L_32, L_35, L_37, L_39, L_40, L_43, L_48, L_57, L_59, L_60, L_97, L_99, L_100, L_120, L_122, L_127, L_160, L_200, L_255, L_999, L_1000, L_100000, L_1000000, L_24, L_33, L_34, L_36, L_38, L_69, L_70, L_72, L_214, L_215, L_288, L_174, L_175, L_206, LL_0, LL_1, LL_2, LL_3, LL_5, LL_9, LL_10, LL_11, LL_12, LL_19, LL_20, LL_30, LL_39, LL_60, LL_99, LL_127, LL_999, hasBlock_e hv hi, isBlock_e hp hi, ngLt h, ngLe h, ngGe h, ngGt h, ngEq h, ngEq' h, in_ng h, zb_ng h]
    exact ⟨_, _, rfl, rfl, rfl, hR.same 1⟩
  by_cases hk2 : k < a.2 5
  · obtain ⟨g1, c1, c2⟩ := copy_e (g := F.1 1) hv hi
    obtain ⟨f1, d1, d2, d3⟩ := copies_p (j := 200) hp hi (by omega) (by omega) (by omega)
    obtain ⟨_, k1, m1, g2, rfl⟩ := kw7_0 sc c2 hi hk2
    obtain ⟨_, k3, m2, f2, k2, rfl⟩ := kw8_0 sr d2 hi (d3.low (by decide)) hk2
    simp (disch := omega) only [↓reduceIte, obs, esc_il, esc_ir, leT, leF, ltT, ltF, eqT, eqF, nleT, nleF, nltT, nltF, neqT, neqF, nI_add, pk_mul, ald_nI, ast_nI, irm_nI, idv_nI, zbT, zbF, in_T, in_F1, in_F2, nI_l, sI_1, sI_2, sA_1, sA_2, subK, add0, sub0, or0, lN_add, lN_mul, L_0, L_1, L_2, L_3, L_4, L_5, L_6, L_7, L_8, L_9, L_10, L_11, L_12, L_13, L_14, L_15, L_16, L_17, L_18, L_19, L_20, L_30, L_31, L_32, L_35, L_37, L_39, L_40, L_43, L_48, L_57, L_59, L_60, L_97, L_99, L_100, L_120, L_122, L_127, L_160, L_200, L_255, L_999, L_1000, L_100000, L_1000000, L_24, L_33, L_34, L_36, L_38, L_69, L_70, L_72, L_214, L_215, L_288, L_174, L_175, L_206, LL_0, LL_1, LL_2, LL_3, LL_5, LL_9, LL_10, LL_11, LL_12, LL_19, LL_20, LL_30, LL_39, LL_60, LL_99, LL_127, LL_999, hasBlock_e hv hi, isBlock_e hp hi, c1, d1, k1, k3]
    exact ⟨_, _, rfl, rfl, rfl, hR.scratch _ k2⟩
  · simp (disch := omega) only [↓reduceIte, obs, esc_il, esc_ir, leT, leF, ltT, ltF, eqT, eqF, nleT, nleF, nltT, nltF, neqT, neqF, nI_add, pk_mul, ald_nI, ast_nI, irm_nI, idv_nI, zbT, zbF, in_T, in_F1, in_F2, nI_l, sI_1, sI_2, sA_1, sA_2, subK, add0, sub0, or0, lN_add, lN_mul, L_0, L_1, L_2, L_3, L_4, L_5, L_6, L_7, L_8, L_9, L_10, L_11, L_12, L_13, L_14, L_15, L_16, L_17, L_18, L_19, L_20, L_30, L_31, L_32, L_35, L_37, L_39, L_40, L_43, L_48, L_57, L_59, L_60, L_97, L_99, L_100, L_120, L_122, L_127, L_160, L_200, L_255, L_999, L_1000, L_100000, L_1000000, L_24, L_33, L_34, L_36, L_38, L_69, L_70, L_72, L_214, L_215, L_288, L_174, L_175, L_206, LL_0, LL_1, LL_2, LL_3, LL_5, LL_9, LL_10, LL_11, LL_12, LL_19, LL_20, LL_30, LL_39, LL_60, LL_99, LL_127, LL_999, hasBlock_e hv hi, isBlock_e hp hi]
    exact ⟨_, _, rfl, rfl, rfl, hR.same 1⟩
theorem kw7_1 {me g : GS} {a : AH} {n : Nat} {si sv : Nat → Nat} (hs : SnC me n si sv) (hv : HV g a) (hi : HI a) {j : Nat} (hj : j < a.2 5) : ∃ x, whO (mX7_warmths_l28 me (nI j)) FU (nI 0, nI 0, g) = some x ∧ ∃ m g', x = (orZ (fun v => alB (ftB (aA a 1 j v) si sv) n) 10, m, g') := by
  have hb := hi.nb
  refine whO_inv (fun (i : Nat) (s : Int32 × Int32 × GS) => ∃ g v, s = (orZ (fun v => alB (ftB (aA a 1 j v) si sv) n) i, nI i, g) ∧ HV g (aA a 1 j v)) 10 _ ?_ ?_ _ ⟨g, a.1 1 j, rfl, by rw [aA_id]; exact hv⟩ (by decide)
  · rintro i s hlt ⟨g, v, rfl, e1⟩
    left
    have e2 := e1.a1 j i
    rw [aA_aA] at e2
    have hi' := hi.a1 j i (by omega)
    have hf := fits_e hs e2 hi'
    refine ⟨_, ?_, sA g 1 (upd (g.1 1) j (nI i)), i, rfl, e2⟩
    unfold mX7_warmths_l28
    cases hx : alB (ftB (aA a 1 j i) si sv) n
    · rw [orZ_n (P := fun v => alB (ftB (aA a 1 j v) si sv) n) hx]
      rw [hx] at hf
      simp (disch := omega) only [↓reduceIte, obs, esc_il, esc_ir, leT, leF, ltT, ltF, eqT, eqF, nleT, nleF, nltT, nltF, neqT, neqF, nI_add, pk_mul, ald_nI, ast_nI, irm_nI, idv_nI, zbT, zbF, in_T, in_F1, in_F2, nI_l, sI_1, sI_2, sA_1, sA_2, subK, add0, sub0, or0, lN_add, lN_mul, L_0, L_1, L_2, L_3, L_4, L_5, L_6, L_7, L_8, L_9, L_10, L_11, L_12, L_13, L_14, L_15, L_16, L_17, L_18, L_19, L_20, L_30, L_31, L_32, L_35, L_37, L_39, L_40, L_43, L_48, L_57, L_59, L_60, L_97, L_99, L_100, L_120, L_122, L_127, L_160, L_200, L_255, L_999, L_1000, L_100000, L_1000000, L_24, L_33, L_34, L_36, L_38, L_69, L_70, L_72, L_214, L_215, L_288, L_174, L_175, L_206, LL_0, LL_1, LL_2, LL_3, LL_5, LL_9, LL_10, LL_11, LL_12, LL_19, LL_20, LL_30, LL_39, LL_60, LL_99, LL_127, LL_999, hf, bN, Bool.false_eq_true]
    · rw [orZ_y (P := fun v => alB (ftB (aA a 1 j v) si sv) n) hx]
      rw [hx] at hf
      simp (disch := omega) only [↓reduceIte, obs, esc_il, esc_ir, leT, leF, ltT, ltF, eqT, eqF, nleT, nleF, nltT, nltF, neqT, neqF, nI_add, pk_mul, ald_nI, ast_nI, irm_nI, idv_nI, zbT, zbF, in_T, in_F1, in_F2, nI_l, sI_1, sI_2, sA_1, sA_2, subK, add0, sub0, or0, lN_add, lN_mul, L_0, L_1, L_2, L_3, L_4, L_5, L_6, L_7, L_8, L_9, L_10, L_11, L_12, L_13, L_14, L_15, L_16, L_17, L_18, L_19, L_20, L_30, L_31, L_32, L_35, L_37, L_39, L_40, L_43, L_48, L_57, L_59, L_60, L_97, L_99, L_100, L_120, L_122, L_127, L_160, L_200, L_255, L_999, L_1000, L_100000, L_1000000, L_24, L_33, L_34, L_36, L_38, L_69, L_70, L_72, L_214, L_215, L_288, L_174, L_175, L_206, LL_0, LL_1, LL_2, LL_3, LL_5, LL_9, LL_10, LL_11, LL_12, LL_19, LL_20, LL_30, LL_39, LL_60, LL_99, LL_127, LL_999, hf, bN]
  · rintro s ⟨g, v, rfl, e1⟩
    refine ⟨_, ?_, nI 10, g, rfl⟩
    unfold mX7_warmths_l28
    simp (disch := omega) only [↓reduceIte, obs, esc_il, esc_ir, leT, leF, ltT, ltF, eqT, eqF, nleT, nleF, nltT, nltF, neqT, neqF, nI_add, pk_mul, ald_nI, ast_nI, irm_nI, idv_nI, zbT, zbF, in_T, in_F1, in_F2, nI_l, sI_1, sI_2, sA_1, sA_2, subK, add0, sub0, or0, lN_add, lN_mul, L_0, L_1, L_2, L_3, L_4, L_5, L_6, L_7, L_8, L_9, L_10, L_11, L_12, L_13, L_14, L_15, L_16, L_17, L_18, L_19, L_20, L_30, L_31, L_32, L_35, L_37, L_39, L_40, L_43, L_48, L_57, L_59, L_60, L_97, L_99, L_100, L_120, L_122, L_127, L_160, L_200, L_255, L_999, L_1000, L_100000, L_1000000, L_24, L_33, L_34, L_36, L_38, L_69, L_70, L_72, L_214, L_215, L_288, L_174, L_175, L_206, LL_0, LL_1, LL_2, LL_3, LL_5, LL_9, LL_10, LL_11, LL_12, LL_19, LL_20, LL_30, LL_39, LL_60, LL_99, LL_127, LL_999]
theorem kw8_1 {M : GS} {f : Nat → Int32} {a : AH} {n : Nat} {si sv : Nat → Nat} (hs : SnR M n si sv) (hp : PV f 200 a) (hi : HI a) (hf : Low (M.1 0) f) {j : Nat} (hj : j < a.2 5) : ∃ x, whO (mX8_warmths_l22 (nI j)) FU (nI 0, nI 0, sA M 0 f) = some x ∧ ∃ m f', Low (M.1 0) f' ∧ x = (orZ (fun v => alB (ftB (aA a 1 j v) si sv) n) 10, m, sA M 0 f') := by
  have hb := hi.nb
  have hk0 := hi.kd hj
  have hw0 := hi.wm hj
  refine whO_inv (fun (i : Nat) (s : Int32 × Int32 × GS) => ∃ f v, s = (orZ (fun v => alB (ftB (aA a 1 j v) si sv) n) i, nI i, sA M 0 f) ∧ Low (M.1 0) f ∧ v ≤ 9 ∧ PV f 200 (aA a 1 j v)) 10 _ ?_ ?_ _ ⟨f, a.1 1 j, rfl, hf, by omega, by rw [aA_id]; exact hp⟩ (by decide)
  · rintro i s hlt ⟨f, v, rfl, el, ev, e1⟩
    left
    have e2 := e1.a1 (hi.a1 j v ev) j i hj
    rw [aA_aA] at e2
    have hi' := hi.a1 j i (by omega)
    have e2' : PV ((sA M 0 (upd f (206 + j) (nI i))).1 0) 200 (aA a 1 j i) := by rw [sA_s]; exact e2
    have hq := isAsSeen_e (hs.sA0 (upd f (206 + j) (nI i))) e2' (by decide) hi'
    refine ⟨_, ?_, upd f (206 + j) (nI i), i, rfl, el.up _ (by omega) _, by omega, e2⟩
    unfold mX8_warmths_l22
    cases hx : alB (ftB (aA a 1 j i) si sv) n
    · rw [orZ_n (P := fun v => alB (ftB (aA a 1 j v) si sv) n) hx]
      rw [hx] at hq
      simp (disch := omega) only [↓reduceIte, obs, esc_il, esc_ir, leT, leF, ltT, ltF, eqT, eqF, nleT, nleF, nltT, nltF, neqT, neqF, nI_add, pk_mul, ald_nI, ast_nI, irm_nI, idv_nI, zbT, zbF, in_T, in_F1, in_F2, nI_l, sI_1, sI_2, sA_1, sA_2, subK, add0, sub0, or0, lN_add, lN_mul, L_0, L_1, L_2, L_3, L_4, L_5, L_6, L_7, L_8, L_9, L_10, L_11, L_12, L_13, L_14, L_15, L_16, L_17, L_18, L_19, L_20, L_30, L_31, L_32, L_35, L_37, L_39, L_40, L_43, L_48, L_57, L_59, L_60, L_97, L_99, L_100, L_120, L_122, L_127, L_160, L_200, L_255, L_999, L_1000, L_100000, L_1000000, L_24, L_33, L_34, L_36, L_38, L_69, L_70, L_72, L_214, L_215, L_288, L_174, L_175, L_206, LL_0, LL_1, LL_2, LL_3, LL_5, LL_9, LL_10, LL_11, LL_12, LL_19, LL_20, LL_30, LL_39, LL_60, LL_99, LL_127, LL_999, sA_s, sA_sA, hq, bN, Bool.false_eq_true]
    · rw [orZ_y (P := fun v => alB (ftB (aA a 1 j v) si sv) n) hx]
      rw [hx] at hq
      simp (disch := omega) only [↓reduceIte, obs, esc_il, esc_ir, leT, leF, ltT, ltF, eqT, eqF, nleT, nleF, nltT, nltF, neqT, neqF, nI_add, pk_mul, ald_nI, ast_nI, irm_nI, idv_nI, zbT, zbF, in_T, in_F1, in_F2, nI_l, sI_1, sI_2, sA_1, sA_2, subK, add0, sub0, or0, lN_add, lN_mul, L_0, L_1, L_2, L_3, L_4, L_5, L_6, L_7, L_8, L_9, L_10, L_11, L_12, L_13, L_14, L_15, L_16, L_17, L_18, L_19, L_20, L_30, L_31, L_32, L_35, L_37, L_39, L_40, L_43, L_48, L_57, L_59, L_60, L_97, L_99, L_100, L_120, L_122, L_127, L_160, L_200, L_255, L_999, L_1000, L_100000, L_1000000, L_24, L_33, L_34, L_36, L_38, L_69, L_70, L_72, L_214, L_215, L_288, L_174, L_175, L_206, LL_0, LL_1, LL_2, LL_3, LL_5, LL_9, LL_10, LL_11, LL_12, LL_19, LL_20, LL_30, LL_39, LL_60, LL_99, LL_127, LL_999, sA_s, sA_sA, hq, bN]
  · rintro s ⟨f, v, rfl, el, ev, e1⟩
    refine ⟨_, ?_, nI 10, f, el, rfl⟩
    unfold mX8_warmths_l22
    simp (disch := omega) only [↓reduceIte, obs, esc_il, esc_ir, leT, leF, ltT, ltF, eqT, eqF, nleT, nleF, nltT, nltF, neqT, neqF, nI_add, pk_mul, ald_nI, ast_nI, irm_nI, idv_nI, zbT, zbF, in_T, in_F1, in_F2, nI_l, sI_1, sI_2, sA_1, sA_2, subK, add0, sub0, or0, lN_add, lN_mul, L_0, L_1, L_2, L_3, L_4, L_5, L_6, L_7, L_8, L_9, L_10, L_11, L_12, L_13, L_14, L_15, L_16, L_17, L_18, L_19, L_20, L_30, L_31, L_32, L_35, L_37, L_39, L_40, L_43, L_48, L_57, L_59, L_60, L_97, L_99, L_100, L_120, L_122, L_127, L_160, L_200, L_255, L_999, L_1000, L_100000, L_1000000, L_24, L_33, L_34, L_36, L_38, L_69, L_70, L_72, L_214, L_215, L_288, L_174, L_175, L_206, LL_0, LL_1, LL_2, LL_3, LL_5, LL_9, LL_10, LL_11, LL_12, LL_19, LL_20, LL_30, LL_39, LL_60, LL_99, LL_127, LL_999]
theorem st_warmths {F : FS} {M : GS} (hR : Rel F M) (j : Int32) : ∃ (o : Int32 × GS) (o' : Int32 × GS), mX7_warmths (F.1 0) (F.1 1) (F.1 6) j = some o ∧ mX8_warmths M j = some o' ∧ o.1 = o'.1 ∧ Rel ((va_up F.1 1 o.2), F.2.1, F.2.2) o'.2 := by
  obtain ⟨⟨a, hv, hp, hi, hy⟩, -⟩ := id hR
  obtain ⟨n, si, sv, sc, sr⟩ := hR.S.fn
  have hb := hi.nb
  unfold mX7_warmths mX8_warmths
  rcases cs2 j with h | ⟨k, hk, rfl⟩
  · simp (disch := omega) only [↓reduceIte, obs, esc_il, esc_ir, leT, leF, ltT, ltF, eqT, eqF, nleT, nleF, nltT, nltF, neqT, neqF, nI_add, pk_mul, ald_nI, ast_nI, irm_nI, idv_nI, zbT, zbF, in_T, in_F1, in_F2, nI_l, sI_1, sI_2, sA_1, sA_2, subK, add0, sub0, or0, lN_add, lN_mul, L_0, L_1, L_2, L_3, L_4, L_5, L_6, L_7, L_8, L_9, L_10, L_11, L_12, L_13, L_14, L_15, L_16, L_17, L_18, L_19, L_20, L_30, L_31, L_32, L_35, L_37, L_39, L_40, L_43, L_48, L_57, L_59, L_60, L_97, L_99, L_100, L_120, L_122, L_127, L_160, L_200, L_255, L_999, L_1000, L_100000, L_1000000, L_24, L_33, L_34, L_36, L_38, L_69, L_70, L_72, L_214, L_215, L_288, L_174, L_175, L_206, LL_0, LL_1, LL_2, LL_3, LL_5, LL_9, LL_10, LL_11, LL_12, LL_19, LL_20, LL_30, LL_39, LL_60, LL_99, LL_127, LL_999, hasBlock_e hv hi, isBlock_e hp hi, ngLt h, ngLe h, ngGe h, ngGt h, ngEq h, ngEq' h, in_ng h, zb_ng h]
    exact ⟨_, _, rfl, rfl, rfl, hR.same 1⟩
  by_cases hk2 : k < a.2 5
  · obtain ⟨g1, c1, c2⟩ := copy_e (g := F.1 1) hv hi
    obtain ⟨f1, d1, d2, d3⟩ := copies_p (j := 200) hp hi (by omega) (by omega) (by omega)
    obtain ⟨_, k1, m1, g2, rfl⟩ := kw7_1 sc c2 hi hk2
    obtain ⟨_, k3, m2, f2, k2, rfl⟩ := kw8_1 sr d2 hi (d3.low (by decide)) hk2
    simp (disch := omega) only [↓reduceIte, obs, esc_il, esc_ir, leT, leF, ltT, ltF, eqT, eqF, nleT, nleF, nltT, nltF, neqT, neqF, nI_add, pk_mul, ald_nI, ast_nI, irm_nI, idv_nI, zbT, zbF, in_T, in_F1, in_F2, nI_l, sI_1, sI_2, sA_1, sA_2, subK, add0, sub0, or0, lN_add, lN_mul, L_0, L_1, L_2, L_3, L_4, L_5, L_6, L_7, L_8, L_9, L_10, L_11, L_12, L_13, L_14, L_15, L_16, L_17, L_18, L_19, L_20, L_30, L_31, L_32, L_35, L_37, L_39, L_40, L_43, L_48, L_57, L_59, L_60, L_97, L_99, L_100, L_120, L_122, L_127, L_160, L_200, L_255, L_999, L_1000, L_100000, L_1000000, L_24, L_33, L_34, L_36, L_38, L_69, L_70, L_72, L_214, L_215, L_288, L_174, L_175, L_206, LL_0, LL_1, LL_2, LL_3, LL_5, LL_9, LL_10, LL_11, LL_12, LL_19, LL_20, LL_30, LL_39, LL_60, LL_99, LL_127, LL_999, hasBlock_e hv hi, isBlock_e hp hi, c1, d1, k1, k3]
    exact ⟨_, _, rfl, rfl, rfl, hR.scratch _ k2⟩
  · simp (disch := omega) only [↓reduceIte, obs, esc_il, esc_ir, leT, leF, ltT, ltF, eqT, eqF, nleT, nleF, nltT, nltF, neqT, neqF, nI_add, pk_mul, ald_nI, ast_nI, irm_nI, idv_nI, zbT, zbF, in_T, in_F1, in_F2, nI_l, sI_1, sI_2, sA_1, sA_2, subK, add0, sub0, or0, lN_add, lN_mul, L_0, L_1, L_2, L_3, L_4, L_5, L_6, L_7, L_8, L_9, L_10, L_11, L_12, L_13, L_14, L_15, L_16, L_17, L_18, L_19, L_20, L_30, L_31, L_32, L_35, L_37, L_39, L_40, L_43, L_48, L_57, L_59, L_60, L_97, L_99, L_100, L_120, L_122, L_127, L_160, L_200, L_255, L_999, L_1000, L_100000, L_1000000, L_24, L_33, L_34, L_36, L_38, L_69, L_70, L_72, L_214, L_215, L_288, L_174, L_175, L_206, LL_0, LL_1, LL_2, LL_3, LL_5, LL_9, LL_10, LL_11, LL_12, LL_19, LL_20, LL_30, LL_39, LL_60, LL_99, LL_127, LL_999, hasBlock_e hv hi, isBlock_e hp hi]
    exact ⟨_, _, rfl, rfl, rfl, hR.same 1⟩
