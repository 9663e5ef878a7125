/-! the frankest stretch, the best shift, the best window, by a seed -/
theorem pr1 (x : Nat) : nI (x + 1) - nI 1 = nI x := nI_pred x
theorem stretch52_e {M : GS} {a : AH} (hp : PV (M.1 0) 0 a) (hi : HI a) {i n : Nat} (h : i + n ≤ a.2 6) (x y : Int32) : whO (mX8_stretch_l52 M (nI n) (x, y, nI i)) FU (nI 0, nI 0) = some (nI (sumW (frN a) i n), nI n) := by
  have hb := hi.nb
  refine whO_for (fun k => (nI (sumW (frN a) i k), nI k)) n _ (by rfl) ?_ ?_ (by omega)
  · intro k hk
    unfold mX8_stretch_l52 sumW
    simp (disch := omega) only [↓reduceIte, obs, esc_il, esc_ir, leT, leF, ltT, ltF, eqT, eqF, nleT, nleF, nltT, nltF, neqT, neqF, nI_add, pk_mul, ald_nI, ast_nI, irm_nI, idv_nI, zbT, zbF, in_T, in_F1, in_F2, nI_l, sI_1, sI_2, sA_1, sA_2, subK, add0, sub0, or0, lN_add, lN_mul, L_0, L_1, L_2, L_3, L_4, L_5, L_6, L_7, L_8, L_9, L_10, L_11, L_12, L_13, L_14, L_15, L_16, L_17, L_18, L_19, L_20, L_30, L_31, L_32, L_35, L_37, L_39, L_40, L_43, L_48, L_57, L_59, L_60, L_97, L_99, L_100, L_120, L_122, L_127, L_160, L_200, L_255, L_999, L_1000, L_100000, L_1000000, L_24, L_33, L_34, L_36, L_38, L_69, L_70, L_72, L_214, L_215, L_288, L_174, L_175, LL_0, LL_1, LL_2, LL_3, LL_5, LL_9, LL_10, LL_11, LL_12, LL_19, LL_20, LL_30, LL_39, LL_60, LL_99, LL_127, LL_999, frankOn_e hp (by decide) hi, sumN]
  · unfold mX8_stretch_l52
    simp (disch := omega) only [↓reduceIte, obs, esc_il, esc_ir, leT, leF, ltT, ltF, eqT, eqF, nleT, nleF, nltT, nltF, neqT, neqF, nI_add, pk_mul, ald_nI, ast_nI, irm_nI, idv_nI, zbT, zbF, in_T, in_F1, in_F2, nI_l, sI_1, sI_2, sA_1, sA_2, subK, add0, sub0, or0, lN_add, lN_mul, L_0, L_1, L_2, L_3, L_4, L_5, L_6, L_7, L_8, L_9, L_10, L_11, L_12, L_13, L_14, L_15, L_16, L_17, L_18, L_19, L_20, L_30, L_31, L_32, L_35, L_37, L_39, L_40, L_43, L_48, L_57, L_59, L_60, L_97, L_99, L_100, L_120, L_122, L_127, L_160, L_200, L_255, L_999, L_1000, L_100000, L_1000000, L_24, L_33, L_34, L_36, L_38, L_69, L_70, L_72, L_214, L_215, L_288, L_174, L_175, LL_0, LL_1, LL_2, LL_3, LL_5, LL_9, LL_10, LL_11, LL_12, LL_19, LL_20, LL_30, LL_39, LL_60, LL_99, LL_127, LL_999]
theorem stretch38_e {M : GS} {a : AH} (hp : PV (M.1 0) 0 a) (hi : HI a) {n : Nat} (h1 : 1 ≤ n) (hn : n ≤ a.2 6) : whO (mX8_stretch_l38 M (nI n) (nI (a.2 6))) FU (nI 0 - nI 1, nI 0, nI 0) = some (nI (bsF (fun i => sumW (frN a) i n) (a.2 6 - n + 1)).2 - nI 1, nI (bsF (fun i => sumW (frN a) i n) (a.2 6 - n + 1)).1, nI (a.2 6 - n + 1)) := by
  have hb := hi.nb
  refine whO_for (fun i => (nI (bsF (fun i => sumW (frN a) i n) i).2 - nI 1, nI (bsF (fun i => sumW (frN a) i n) i).1, nI i)) (a.2 6 - n + 1) _ (by rfl) ?_ ?_ (by omega)
  · intro i h
    have hs := sumW_le hi i n
    have hin := stretch52_e hp hi (i := i) (n := n) (by omega)
    unfold mX8_stretch_l38
    by_cases hc : (bsF (fun i => sumW (frN a) i n) i).2 ≤ sumW (frN a) i n
    · rw [bsF_y hc]
      simp (disch := omega) only [↓reduceIte, obs, esc_il, esc_ir, leT, leF, ltT, ltF, eqT, eqF, nleT, nleF, nltT, nltF, neqT, neqF, nI_add, pk_mul, ald_nI, ast_nI, irm_nI, idv_nI, zbT, zbF, in_T, in_F1, in_F2, nI_l, sI_1, sI_2, sA_1, sA_2, add0, sub0, or0, lN_add, lN_mul, L_0, L_1, L_2, L_3, L_4, L_5, L_6, L_7, L_8, L_9, L_10, L_11, L_12, L_13, L_14, L_15, L_16, L_17, L_18, L_19, L_20, L_30, L_31, L_32, L_35, L_37, L_39, L_40, L_43, L_48, L_57, L_59, L_60, L_97, L_99, L_100, L_120, L_122, L_127, L_160, L_200, L_255, L_999, L_1000, L_100000, L_1000000, L_24, L_33, L_34, L_36, L_38, L_69, L_70, L_72, L_214, L_215, L_288, L_174, L_175, LL_0, LL_1, LL_2, LL_3, LL_5, LL_9, LL_10, LL_11, LL_12, LL_19, LL_20, LL_30, LL_39, LL_60, LL_99, LL_127, LL_999, hin, le1F, pr1]
    · rw [bsF_n hc]
      have hl := bsF_le (f := fun i => sumW (frN a) i n) (B := 24 * n) (fun i => sumW_le hi i n) i
      simp (disch := omega) only [↓reduceIte, obs, esc_il, esc_ir, leT, leF, ltT, ltF, eqT, eqF, nleT, nleF, nltT, nltF, neqT, neqF, nI_add, pk_mul, ald_nI, ast_nI, irm_nI, idv_nI, zbT, zbF, in_T, in_F1, in_F2, nI_l, sI_1, sI_2, sA_1, sA_2, add0, sub0, or0, lN_add, lN_mul, L_0, L_1, L_2, L_3, L_4, L_5, L_6, L_7, L_8, L_9, L_10, L_11, L_12, L_13, L_14, L_15, L_16, L_17, L_18, L_19, L_20, L_30, L_31, L_32, L_35, L_37, L_39, L_40, L_43, L_48, L_57, L_59, L_60, L_97, L_99, L_100, L_120, L_122, L_127, L_160, L_200, L_255, L_999, L_1000, L_100000, L_1000000, L_24, L_33, L_34, L_36, L_38, L_69, L_70, L_72, L_214, L_215, L_288, L_174, L_175, LL_0, LL_1, LL_2, LL_3, LL_5, LL_9, LL_10, LL_11, LL_12, LL_19, LL_20, LL_30, LL_39, LL_60, LL_99, LL_127, LL_999, hin, le1T]
  · unfold mX8_stretch_l38
    simp (disch := omega) only [↓reduceIte, obs, esc_il, esc_ir, leT, leF, ltT, ltF, eqT, eqF, nleT, nleF, nltT, nltF, neqT, neqF, nI_add, pk_mul, ald_nI, ast_nI, irm_nI, idv_nI, zbT, zbF, in_T, in_F1, in_F2, nI_l, sI_1, sI_2, sA_1, sA_2, subK, add0, sub0, or0, lN_add, lN_mul, L_0, L_1, L_2, L_3, L_4, L_5, L_6, L_7, L_8, L_9, L_10, L_11, L_12, L_13, L_14, L_15, L_16, L_17, L_18, L_19, L_20, L_30, L_31, L_32, L_35, L_37, L_39, L_40, L_43, L_48, L_57, L_59, L_60, L_97, L_99, L_100, L_120, L_122, L_127, L_160, L_200, L_255, L_999, L_1000, L_100000, L_1000000, L_24, L_33, L_34, L_36, L_38, L_69, L_70, L_72, L_214, L_215, L_288, L_174, L_175, LL_0, LL_1, LL_2, LL_3, LL_5, LL_9, LL_10, LL_11, LL_12, LL_19, LL_20, LL_30, LL_39, LL_60, LL_99, LL_127, LL_999]
theorem st_stretch {F : FS} {M : GS} (hR : Rel F M) (n : Int32) (w : Int32) : ∃ (o : Int32) (o' : Int32), mX7_stretch (F.1 0) n w = some o ∧ mX8_stretch M n w = some o' ∧ o = o' ∧ Rel F M := by
  obtain ⟨⟨a, hv, hp, hi, hy⟩, -⟩ := id hR
  have hb := hi.nb
  unfold mX7_stretch mX8_stretch
  rcases cs2 n with h | ⟨m, hm, rfl⟩
  · simp (disch := omega) only [↓reduceIte, obs, esc_il, esc_ir, leT, leF, ltT, ltF, eqT, eqF, nleT, nleF, nltT, nltF, neqT, neqF, nI_add, pk_mul, ald_nI, ast_nI, irm_nI, idv_nI, zbT, zbF, in_T, in_F1, in_F2, nI_l, sI_1, sI_2, sA_1, sA_2, subK, add0, sub0, or0, lN_add, lN_mul, L_0, L_1, L_2, L_3, L_4, L_5, L_6, L_7, L_8, L_9, L_10, L_11, L_12, L_13, L_14, L_15, L_16, L_17, L_18, L_19, L_20, L_30, L_31, L_32, L_35, L_37, L_39, L_40, L_43, L_48, L_57, L_59, L_60, L_97, L_99, L_100, L_120, L_122, L_127, L_160, L_200, L_255, L_999, L_1000, L_100000, L_1000000, L_24, L_33, L_34, L_36, L_38, L_69, L_70, L_72, L_214, L_215, L_288, L_174, L_175, LL_0, LL_1, LL_2, LL_3, LL_5, LL_9, LL_10, LL_11, LL_12, LL_19, LL_20, LL_30, LL_39, LL_60, LL_99, LL_127, LL_999, longOn_e hp (by decide), ngLt h, ngLe h, ngGe h, ngGt h, ngEq h, ngEq' h, in_ng h, zb_ng h]
    exact ⟨_, _, rfl, rfl, rfl, hR⟩
  rcases (show m = 0 ∨ a.2 6 < m ∨ (1 ≤ m ∧ m ≤ a.2 6) by omega) with rfl | hm2 | hm2
  · simp (disch := omega) only [↓reduceIte, obs, esc_il, esc_ir, leT, leF, ltT, ltF, eqT, eqF, nleT, nleF, nltT, nltF, neqT, neqF, nI_add, pk_mul, ald_nI, ast_nI, irm_nI, idv_nI, zbT, zbF, in_T, in_F1, in_F2, nI_l, sI_1, sI_2, sA_1, sA_2, subK, add0, sub0, or0, lN_add, lN_mul, L_0, L_1, L_2, L_3, L_4, L_5, L_6, L_7, L_8, L_9, L_10, L_11, L_12, L_13, L_14, L_15, L_16, L_17, L_18, L_19, L_20, L_30, L_31, L_32, L_35, L_37, L_39, L_40, L_43, L_48, L_57, L_59, L_60, L_97, L_99, L_100, L_120, L_122, L_127, L_160, L_200, L_255, L_999, L_1000, L_100000, L_1000000, L_24, L_33, L_34, L_36, L_38, L_69, L_70, L_72, L_214, L_215, L_288, L_174, L_175, LL_0, LL_1, LL_2, LL_3, LL_5, LL_9, LL_10, LL_11, LL_12, LL_19, LL_20, LL_30, LL_39, LL_60, LL_99, LL_127, LL_999, longOn_e hp (by decide)]
    exact ⟨_, _, rfl, rfl, rfl, hR⟩
  · simp (disch := omega) only [↓reduceIte, obs, esc_il, esc_ir, leT, leF, ltT, ltF, eqT, eqF, nleT, nleF, nltT, nltF, neqT, neqF, nI_add, pk_mul, ald_nI, ast_nI, irm_nI, idv_nI, zbT, zbF, in_T, in_F1, in_F2, nI_l, sI_1, sI_2, sA_1, sA_2, subK, add0, sub0, or0, lN_add, lN_mul, L_0, L_1, L_2, L_3, L_4, L_5, L_6, L_7, L_8, L_9, L_10, L_11, L_12, L_13, L_14, L_15, L_16, L_17, L_18, L_19, L_20, L_30, L_31, L_32, L_35, L_37, L_39, L_40, L_43, L_48, L_57, L_59, L_60, L_97, L_99, L_100, L_120, L_122, L_127, L_160, L_200, L_255, L_999, L_1000, L_100000, L_1000000, L_24, L_33, L_34, L_36, L_38, L_69, L_70, L_72, L_214, L_215, L_288, L_174, L_175, LL_0, LL_1, LL_2, LL_3, LL_5, LL_9, LL_10, LL_11, LL_12, LL_19, LL_20, LL_30, LL_39, LL_60, LL_99, LL_127, LL_999, longOn_e hp (by decide), hv.w]
    exact ⟨_, _, rfl, rfl, rfl, hR⟩
  · rcases pair_cs w with ⟨h1, h2⟩ | rfl | rfl
    · simp (disch := omega) only [↓reduceIte, obs, esc_il, esc_ir, leT, leF, ltT, ltF, eqT, eqF, nleT, nleF, nltT, nltF, neqT, neqF, nI_add, pk_mul, ald_nI, ast_nI, irm_nI, idv_nI, zbT, zbF, in_T, in_F1, in_F2, nI_l, sI_1, sI_2, sA_1, sA_2, subK, add0, sub0, or0, lN_add, lN_mul, L_0, L_1, L_2, L_3, L_4, L_5, L_6, L_7, L_8, L_9, L_10, L_11, L_12, L_13, L_14, L_15, L_16, L_17, L_18, L_19, L_20, L_30, L_31, L_32, L_35, L_37, L_39, L_40, L_43, L_48, L_57, L_59, L_60, L_97, L_99, L_100, L_120, L_122, L_127, L_160, L_200, L_255, L_999, L_1000, L_100000, L_1000000, L_24, L_33, L_34, L_36, L_38, L_69, L_70, L_72, L_214, L_215, L_288, L_174, L_175, LL_0, LL_1, LL_2, LL_3, LL_5, LL_9, LL_10, LL_11, LL_12, LL_19, LL_20, LL_30, LL_39, LL_60, LL_99, LL_127, LL_999, longOn_e hp (by decide), hv.w, h1, h2]
      exact ⟨_, _, rfl, rfl, rfl, hR⟩
    · have hs := stretch38_e hp hi hm2.1 hm2.2
      simp (disch := omega) only [↓reduceIte, obs, esc_il, esc_ir, leT, leF, ltT, ltF, eqT, eqF, nleT, nleF, nltT, nltF, neqT, neqF, nI_add, pk_mul, ald_nI, ast_nI, irm_nI, idv_nI, zbT, zbF, in_T, in_F1, in_F2, nI_l, sI_1, sI_2, sA_1, sA_2, add0, sub0, or0, lN_add, lN_mul, L_0, L_1, L_2, L_3, L_4, L_5, L_6, L_7, L_8, L_9, L_10, L_11, L_12, L_13, L_14, L_15, L_16, L_17, L_18, L_19, L_20, L_30, L_31, L_32, L_35, L_37, L_39, L_40, L_43, L_48, L_57, L_59, L_60, L_97, L_99, L_100, L_120, L_122, L_127, L_160, L_200, L_255, L_999, L_1000, L_100000, L_1000000, L_24, L_33, L_34, L_36, L_38, L_69, L_70, L_72, L_214, L_215, L_288, L_174, L_175, LL_0, LL_1, LL_2, LL_3, LL_5, LL_9, LL_10, LL_11, LL_12, LL_19, LL_20, LL_30, LL_39, LL_60, LL_99, LL_127, LL_999, mi1, longOn_e hp (by decide), hv.w, np0, frankestFrom_e hv hi, hs]
      exact ⟨_, _, rfl, rfl, rfl, hR⟩
    · have hs := stretch38_e hp hi hm2.1 hm2.2
      have hlt := bsF_lt (fun i => sumW (frN a) i m) (a.2 6 - m + 1)
      have h2 := bsF_2 (fun i => sumW (frN a) i m) (a.2 6 - m + 1) (by omega)
      simp (disch := omega) only [↓reduceIte, obs, esc_il, esc_ir, leT, leF, ltT, ltF, eqT, eqF, nleT, nleF, nltT, nltF, neqT, neqF, nI_add, pk_mul, ald_nI, ast_nI, irm_nI, idv_nI, zbT, zbF, in_T, in_F1, in_F2, nI_l, sI_1, sI_2, sA_1, sA_2, add0, sub0, or0, lN_add, lN_mul, L_0, L_1, L_2, L_3, L_4, L_5, L_6, L_7, L_8, L_9, L_10, L_11, L_12, L_13, L_14, L_15, L_16, L_17, L_18, L_19, L_20, L_30, L_31, L_32, L_35, L_37, L_39, L_40, L_43, L_48, L_57, L_59, L_60, L_97, L_99, L_100, L_120, L_122, L_127, L_160, L_200, L_255, L_999, L_1000, L_100000, L_1000000, L_24, L_33, L_34, L_36, L_38, L_69, L_70, L_72, L_214, L_215, L_288, L_174, L_175, LL_0, LL_1, LL_2, LL_3, LL_5, LL_9, LL_10, LL_11, LL_12, LL_19, LL_20, LL_30, LL_39, LL_60, LL_99, LL_127, LL_999, mi1, longOn_e hp (by decide), hv.w, np1, frankestFrom_e hv hi, hs, frankFrom_e hv hi]
      refine ⟨_, _, rfl, rfl, ?_, hR⟩
      rw [h2, pk_sub (by omega), Nat.add_sub_cancel]
theorem aI_aI (a : AH) (k v w : Nat) : aI (aI a k v) k w = aI a k w := by
  show (a.1, va_up (va_up a.2 k v) k w) = (a.1, va_up a.2 k w)
  rw [bx_uu]
theorem aI_id (a : AH) (k : Nat) : aI a k (a.2 k) = a := by
  show (a.1, va_up a.2 k (a.2 k)) = a
  rw [up_id2]
theorem hang7_e {g : GS} {a : AH} (hv : HV g a) (hi : HI a) : ∃ x, whO (mX7_hang_l27) FU (nI 0, nI 0 - nI 1, nI 0, g) = some x ∧ ∃ g', x = (nI (bsF (fun s => frAll (aI a 7 s)) 6).1, nI (bsF (fun s => frAll (aI a 7 s)) 6).2 - nI 1, nI 6, g') := by
  have hb := hi.nb
  refine whO_inv (fun (i : Nat) (s : Int32 × Int32 × Int32 × GS) => ∃ g v, s = (nI (bsF (fun s => frAll (aI a 7 s)) i).1, nI (bsF (fun s => frAll (aI a 7 s)) i).2 - nI 1, nI i, g) ∧ HV g (aI a 7 v)) 6 _ ?_ ?_ _ ⟨g, a.2 7, rfl, by rw [aI_id]; exact hv⟩ (by decide)
  · rintro i s hlt ⟨g, v, rfl, e1⟩
    left
    have e2 := e1.i7 i
    rw [aI_aI] at e2
    have hi' := hi.i7 i (by omega)
    have h288 := frAll_le hi'
    refine ⟨_, ?_, sI g 7 (nI i), i, rfl, e2⟩
    unfold mX7_hang_l27
    by_cases hc : (bsF (fun s => frAll (aI a 7 s)) i).2 ≤ frAll (aI a 7 i)
    · rw [bsF_y hc]
      simp (disch := omega) only [↓reduceIte, obs, esc_il, esc_ir, leT, leF, ltT, ltF, eqT, eqF, nleT, nleF, nltT, nltF, neqT, neqF, nI_add, pk_mul, ald_nI, ast_nI, irm_nI, idv_nI, zbT, zbF, in_T, in_F1, in_F2, nI_l, sI_1, sI_2, sA_1, sA_2, add0, sub0, or0, lN_add, lN_mul, L_0, L_1, L_2, L_3, L_4, L_5, L_6, L_7, L_8, L_9, L_10, L_11, L_12, L_13, L_14, L_15, L_16, L_17, L_18, L_19, L_20, L_30, L_31, L_32, L_35, L_37, L_39, L_40, L_43, L_48, L_57, L_59, L_60, L_97, L_99, L_100, L_120, L_122, L_127, L_160, L_200, L_255, L_999, L_1000, L_100000, L_1000000, L_24, L_33, L_34, L_36, L_38, L_69, L_70, L_72, L_214, L_215, L_288, L_174, L_175, LL_0, LL_1, LL_2, LL_3, LL_5, LL_9, LL_10, LL_11, LL_12, LL_19, LL_20, LL_30, LL_39, LL_60, LL_99, LL_127, LL_999, frankOfAll_e e2 hi', le1F, pr1]
    · rw [bsF_n hc]
      have hl : (bsF (fun s => frAll (aI a 7 s)) i).2 < 2 ^ 30 := by
        rcases Nat.eq_zero_or_pos i with rfl | h0
        · show 0 < 2 ^ 30; decide
        · have := bsF_2 (fun s => frAll (aI a 7 s)) i h0
          have := frAll_le (hi.i7 (bsF (fun s => frAll (aI a 7 s)) i).1 (by have := bsF_lt (fun s => frAll (aI a 7 s)) i; omega))
          omega
      simp (disch := omega) only [↓reduceIte, obs, esc_il, esc_ir, leT, leF, ltT, ltF, eqT, eqF, nleT, nleF, nltT, nltF, neqT, neqF, nI_add, pk_mul, ald_nI, ast_nI, irm_nI, idv_nI, zbT, zbF, in_T, in_F1, in_F2, nI_l, sI_1, sI_2, sA_1, sA_2, add0, sub0, or0, lN_add, lN_mul, L_0, L_1, L_2, L_3, L_4, L_5, L_6, L_7, L_8, L_9, L_10, L_11, L_12, L_13, L_14, L_15, L_16, L_17, L_18, L_19, L_20, L_30, L_31, L_32, L_35, L_37, L_39, L_40, L_43, L_48, L_57, L_59, L_60, L_97, L_99, L_100, L_120, L_122, L_127, L_160, L_200, L_255, L_999, L_1000, L_100000, L_1000000, L_24, L_33, L_34, L_36, L_38, L_69, L_70, L_72, L_214, L_215, L_288, L_174, L_175, LL_0, LL_1, LL_2, LL_3, LL_5, LL_9, LL_10, LL_11, LL_12, LL_19, LL_20, LL_30, LL_39, LL_60, LL_99, LL_127, LL_999, frankOfAll_e e2 hi', le1T]
  · rintro s ⟨g, v, rfl, e1⟩
    refine ⟨_, ?_, g, rfl⟩
    unfold mX7_hang_l27
    simp (disch := omega) only [↓reduceIte, obs, esc_il, esc_ir, leT, leF, ltT, ltF, eqT, eqF, nleT, nleF, nltT, nltF, neqT, neqF, nI_add, pk_mul, ald_nI, ast_nI, irm_nI, idv_nI, zbT, zbF, in_T, in_F1, in_F2, nI_l, sI_1, sI_2, sA_1, sA_2, add0, sub0, or0, lN_add, lN_mul, L_0, L_1, L_2, L_3, L_4, L_5, L_6, L_7, L_8, L_9, L_10, L_11, L_12, L_13, L_14, L_15, L_16, L_17, L_18, L_19, L_20, L_30, L_31, L_32, L_35, L_37, L_39, L_40, L_43, L_48, L_57, L_59, L_60, L_97, L_99, L_100, L_120, L_122, L_127, L_160, L_200, L_255, L_999, L_1000, L_100000, L_1000000, L_24, L_33, L_34, L_36, L_38, L_69, L_70, L_72, L_214, L_215, L_288, L_174, L_175, LL_0, LL_1, LL_2, LL_3, LL_5, LL_9, LL_10, LL_11, LL_12, LL_19, LL_20, LL_30, LL_39, LL_60, LL_99, LL_127, LL_999]
theorem hang8_e {M : GS} {f : Nat → Int32} {a : AH} (hp : PV f 200 a) (hi : HI a) (hf : Low (M.1 0) f) : ∃ x, whO (mX8_hang_l27) FU (nI 0 - nI 1, nI 0, nI 0, sA M 0 f) = some x ∧ ∃ f', Low (M.1 0) f' ∧ x = (nI (bsF (fun s => frAll (aI a 7 s)) 6).2 - nI 1, nI (bsF (fun s => frAll (aI a 7 s)) 6).1, nI 6, sA M 0 f') := by
  have hb := hi.nb
  refine whO_inv (fun (i : Nat) (s : Int32 × Int32 × Int32 × GS) => ∃ f v, s = (nI (bsF (fun s => frAll (aI a 7 s)) i).2 - nI 1, nI (bsF (fun s => frAll (aI a 7 s)) i).1, nI i, sA M 0 f) ∧ Low (M.1 0) f ∧ v ≤ 5 ∧ PV f 200 (aI a 7 v)) 6 _ ?_ ?_ _ ⟨f, a.2 7, rfl, hf, by omega, by rw [aI_id]; exact hp⟩ (by decide)
  · rintro i s hlt ⟨f, v, rfl, el, ev, e1⟩
    left
    have e2 := e1.i7 (hi.i7 v ev) i
    rw [aI_aI] at e2
    have hi' := hi.i7 i (by omega)
    have h288 := frAll_le hi'
    have e2' : PV ((sA M 0 (upd f 214 (nI i))).1 0) 200 (aI a 7 i) := by rw [sA_s]; exact e2
    refine ⟨_, ?_, upd f 214 (nI i), i, rfl, el.up _ (by decide) _, by omega, e2⟩
    unfold mX8_hang_l27
    by_cases hc : (bsF (fun s => frAll (aI a 7 s)) i).2 ≤ frAll (aI a 7 i)
    · rw [bsF_y hc]
      simp (disch := omega) only [↓reduceIte, obs, esc_il, esc_ir, leT, leF, ltT, ltF, eqT, eqF, nleT, nleF, nltT, nltF, neqT, neqF, nI_add, pk_mul, ald_nI, ast_nI, irm_nI, idv_nI, zbT, zbF, in_T, in_F1, in_F2, nI_l, sI_1, sI_2, sA_1, sA_2, add0, sub0, or0, lN_add, lN_mul, L_0, L_1, L_2, L_3, L_4, L_5, L_6, L_7, L_8, L_9, L_10, L_11, L_12, L_13, L_14, L_15, L_16, L_17, L_18, L_19, L_20, L_30, L_31, L_32, L_35, L_37, L_39, L_40, L_43, L_48, L_57, L_59, L_60, L_97, L_99, L_100, L_120, L_122, L_127, L_160, L_200, L_255, L_999, L_1000, L_100000, L_1000000, L_24, L_33, L_34, L_36, L_38, L_69, L_70, L_72, L_214, L_215, L_288, L_174, L_175, LL_0, LL_1, LL_2, LL_3, LL_5, LL_9, LL_10, LL_11, LL_12, LL_19, LL_20, LL_30, LL_39, LL_60, LL_99, LL_127, LL_999, sA_s, sA_sA, frankOfAll8_e e2' (by decide) hi', le1F, pr1]
    · rw [bsF_n hc]
      have hl : (bsF (fun s => frAll (aI a 7 s)) i).2 < 2 ^ 30 := by
        rcases Nat.eq_zero_or_pos i with rfl | h0
        · show 0 < 2 ^ 30; decide
        · have := bsF_2 (fun s => frAll (aI a 7 s)) i h0
          have := frAll_le (hi.i7 (bsF (fun s => frAll (aI a 7 s)) i).1 (by have := bsF_lt (fun s => frAll (aI a 7 s)) i; omega))
          omega
      simp (disch := omega) only [↓reduceIte, obs, esc_il, esc_ir, leT, leF, ltT, ltF, eqT, eqF, nleT, nleF, nltT, nltF, neqT, neqF, nI_add, pk_mul, ald_nI, ast_nI, irm_nI, idv_nI, zbT, zbF, in_T, in_F1, in_F2, nI_l, sI_1, sI_2, sA_1, sA_2, add0, sub0, or0, lN_add, lN_mul, L_0, L_1, L_2, L_3, L_4, L_5, L_6, L_7, L_8, L_9, L_10, L_11, L_12, L_13, L_14, L_15, L_16, L_17, L_18, L_19, L_20, L_30, L_31, L_32, L_35, L_37, L_39, L_40, L_43, L_48, L_57, L_59, L_60, L_97, L_99, L_100, L_120, L_122, L_127, L_160, L_200, L_255, L_999, L_1000, L_100000, L_1000000, L_24, L_33, L_34, L_36, L_38, L_69, L_70, L_72, L_214, L_215, L_288, L_174, L_175, LL_0, LL_1, LL_2, LL_3, LL_5, LL_9, LL_10, LL_11, LL_12, LL_19, LL_20, LL_30, LL_39, LL_60, LL_99, LL_127, LL_999, sA_s, sA_sA, frankOfAll8_e e2' (by decide) hi', le1T]
  · rintro s ⟨f, v, rfl, el, ev, e1⟩
    refine ⟨_, ?_, f, el, rfl⟩
    unfold mX8_hang_l27
    simp (disch := omega) only [↓reduceIte, obs, esc_il, esc_ir, leT, leF, ltT, ltF, eqT, eqF, nleT, nleF, nltT, nltF, neqT, neqF, nI_add, pk_mul, ald_nI, ast_nI, irm_nI, idv_nI, zbT, zbF, in_T, in_F1, in_F2, nI_l, sI_1, sI_2, sA_1, sA_2, add0, sub0, or0, lN_add, lN_mul, L_0, L_1, L_2, L_3, L_4, L_5, L_6, L_7, L_8, L_9, L_10, L_11, L_12, L_13, L_14, L_15, L_16, L_17, L_18, L_19, L_20, L_30, L_31, L_32, L_35, L_37, L_39, L_40, L_43, L_48, L_57, L_59, L_60, L_97, L_99, L_100, L_120, L_122, L_127, L_160, L_200, L_255, L_999, L_1000, L_100000, L_1000000, L_24, L_33, L_34, L_36, L_38, L_69, L_70, L_72, L_214, L_215, L_288, L_174, L_175, LL_0, LL_1, LL_2, LL_3, LL_5, LL_9, LL_10, LL_11, LL_12, LL_19, LL_20, LL_30, LL_39, LL_60, LL_99, LL_127, LL_999]
theorem st_hang {F : FS} {M : GS} (hR : Rel F M) (w : Int32) : ∃ (o : Int32 × GS) (o' : Int32 × GS), mX7_hang (F.1 0) (F.1 1) w = some o ∧ mX8_hang M w = some o' ∧ o.1 = o'.1 ∧ Rel ((va_up F.1 1 o.2), F.2.1, F.2.2) o'.2 := by
  obtain ⟨⟨a, hv, hp, hi, hy⟩, -⟩ := id hR
  have hb := hi.nb
  unfold mX7_hang mX8_hang
  rcases pair_cs w with ⟨h1, h2⟩ | rfl | rfl
  · simp (disch := omega) only [↓reduceIte, obs, esc_il, esc_ir, leT, leF, ltT, ltF, eqT, eqF, nleT, nleF, nltT, nltF, neqT, neqF, nI_add, pk_mul, ald_nI, ast_nI, irm_nI, idv_nI, zbT, zbF, in_T, in_F1, in_F2, nI_l, sI_1, sI_2, sA_1, sA_2, add0, sub0, or0, lN_add, lN_mul, L_0, L_1, L_2, L_3, L_4, L_5, L_6, L_7, L_8, L_9, L_10, L_11, L_12, L_13, L_14, L_15, L_16, L_17, L_18, L_19, L_20, L_30, L_31, L_32, L_35, L_37, L_39, L_40, L_43, L_48, L_57, L_59, L_60, L_97, L_99, L_100, L_120, L_122, L_127, L_160, L_200, L_255, L_999, L_1000, L_100000, L_1000000, L_24, L_33, L_34, L_36, L_38, L_69, L_70, L_72, L_214, L_215, L_288, L_174, L_175, LL_0, LL_1, LL_2, LL_3, LL_5, LL_9, LL_10, LL_11, LL_12, LL_19, LL_20, LL_30, LL_39, LL_60, LL_99, LL_127, LL_999, h1, h2]
    exact ⟨_, _, rfl, rfl, rfl, hR.same 1⟩
  all_goals
    obtain ⟨g1, c1, c2⟩ := copy_e (g := F.1 1) hv hi
    obtain ⟨f1, d1, d2, d3⟩ := copies_p (j := 200) hp hi (by omega) (by omega) (by omega)
    obtain ⟨_, k1, g2, rfl⟩ := hang7_e c2 hi
    obtain ⟨_, k3, f2, k2, rfl⟩ := hang8_e (M := M) d2 hi (d3.low (by decide))
    simp (disch := omega) only [↓reduceIte, obs, esc_il, esc_ir, leT, leF, ltT, ltF, eqT, eqF, nleT, nleF, nltT, nltF, neqT, neqF, nI_add, pk_mul, ald_nI, ast_nI, irm_nI, idv_nI, zbT, zbF, in_T, in_F1, in_F2, nI_l, sI_1, sI_2, sA_1, sA_2, add0, sub0, or0, lN_add, lN_mul, L_0, L_1, L_2, L_3, L_4, L_5, L_6, L_7, L_8, L_9, L_10, L_11, L_12, L_13, L_14, L_15, L_16, L_17, L_18, L_19, L_20, L_30, L_31, L_32, L_35, L_37, L_39, L_40, L_43, L_48, L_57, L_59, L_60, L_97, L_99, L_100, L_120, L_122, L_127, L_160, L_200, L_255, L_999, L_1000, L_100000, L_1000000, L_24, L_33, L_34, L_36, L_38, L_69, L_70, L_72, L_214, L_215, L_288, L_174, L_175, LL_0, LL_1, LL_2, LL_3, LL_5, LL_9, LL_10, LL_11, LL_12, LL_19, LL_20, LL_30, LL_39, LL_60, LL_99, LL_127, LL_999, mi1, np0, np1, c1, d1, k1, k3]
    exact ⟨_, _, rfl, rfl, rfl, hR.scratch _ k2⟩
theorem shade_hi {a : AH} (hi : HI a) (hy : a.2 11 ≤ 999) {n i : Nat} (hn : n ≤ 60) (h : i ≤ 11) : HI (passA n (aI a 8 i)) := passA_HI (hi.i8 i h) n (by show a.2 11 + n ≤ 2000; omega)
theorem shade_bd {a : AH} (hi : HI a) (hy : a.2 11 ≤ 999) {n i : Nat} (hn : n ≤ 60) (h : i ≤ 12) : (bsF (fun s => frAll (passA n (aI a 8 s))) i).2 < 2 ^ 30 := by
  rcases Nat.eq_zero_or_pos i with rfl | h0
  · show 0 < 2 ^ 30; decide
  · have := bsF_2 (fun s => frAll (passA n (aI a 8 s))) i h0
    have := frAll_le (shade_hi hi hy hn (i := (bsF (fun s => frAll (passA n (aI a 8 s))) i).1) (by have := bsF_lt (fun s => frAll (passA n (aI a 8 s))) i; omega))
    omega
theorem shade7_e {h tr : GS} {a : AH} (hv : HV h a) (hi : HI a) (hy : a.2 11 ≤ 999) {n : Nat} (hn : n ≤ 60) : ∃ x, whO (mX7_shade_l27 h (nI n)) FU (nI 0, nI 0 - nI 1, nI 0, tr) = some x ∧ ∃ g', x = (nI (bsF (fun s => frAll (passA n (aI a 8 s))) 12).1, nI (bsF (fun s => frAll (passA n (aI a 8 s))) 12).2 - nI 1, nI 12, g') := by
  have hb := hi.nb
  refine whO_inv (fun (i : Nat) (s : Int32 × Int32 × Int32 × GS) => ∃ g, s = (nI (bsF (fun s => frAll (passA n (aI a 8 s))) i).1, nI (bsF (fun s => frAll (passA n (aI a 8 s))) i).2 - nI 1, nI i, g)) 12 _ ?_ ?_ _ ⟨tr, rfl⟩ (by decide)
  · rintro i s hlt ⟨g, rfl⟩
    left
    obtain ⟨g1, c1, c2⟩ := copy_e (g := g) hv hi
    have e2 := c2.i8 i
    obtain ⟨g2, d1, d2⟩ := pass_e e2 (hi.i8 i (by omega)) (n := n) (by omega)
    have hi' := shade_hi hi hy hn (i := i) (by omega)
    have h288 := frAll_le hi'
    have hl := shade_bd hi hy hn (i := i) (by omega)
    refine ⟨_, ?_, g2, rfl⟩
    unfold mX7_shade_l27
    by_cases hc : (bsF (fun s => frAll (passA n (aI a 8 s))) i).2 ≤ frAll (passA n (aI a 8 i))
    · rw [bsF_y hc]
      simp (disch := omega) only [↓reduceIte, obs, esc_il, esc_ir, leT, leF, ltT, ltF, eqT, eqF, nleT, nleF, nltT, nltF, neqT, neqF, nI_add, pk_mul, ald_nI, ast_nI, irm_nI, idv_nI, zbT, zbF, in_T, in_F1, in_F2, nI_l, sI_1, sI_2, sA_1, sA_2, add0, sub0, or0, lN_add, lN_mul, L_0, L_1, L_2, L_3, L_4, L_5, L_6, L_7, L_8, L_9, L_10, L_11, L_12, L_13, L_14, L_15, L_16, L_17, L_18, L_19, L_20, L_30, L_31, L_32, L_35, L_37, L_39, L_40, L_43, L_48, L_57, L_59, L_60, L_97, L_99, L_100, L_120, L_122, L_127, L_160, L_200, L_255, L_999, L_1000, L_100000, L_1000000, L_24, L_33, L_34, L_36, L_38, L_69, L_70, L_72, L_214, L_215, L_288, L_174, L_175, LL_0, LL_1, LL_2, LL_3, LL_5, LL_9, LL_10, LL_11, LL_12, LL_19, LL_20, LL_30, LL_39, LL_60, LL_99, LL_127, LL_999, c1, d1, frankOfAll_e d2 hi', le1F, pr1]
    · rw [bsF_n hc]
      simp (disch := omega) only [↓reduceIte, obs, esc_il, esc_ir, leT, leF, ltT, ltF, eqT, eqF, nleT, nleF, nltT, nltF, neqT, neqF, nI_add, pk_mul, ald_nI, ast_nI, irm_nI, idv_nI, zbT, zbF, in_T, in_F1, in_F2, nI_l, sI_1, sI_2, sA_1, sA_2, add0, sub0, or0, lN_add, lN_mul, L_0, L_1, L_2, L_3, L_4, L_5, L_6, L_7, L_8, L_9, L_10, L_11, L_12, L_13, L_14, L_15, L_16, L_17, L_18, L_19, L_20, L_30, L_31, L_32, L_35, L_37, L_39, L_40, L_43, L_48, L_57, L_59, L_60, L_97, L_99, L_100, L_120, L_122, L_127, L_160, L_200, L_255, L_999, L_1000, L_100000, L_1000000, L_24, L_33, L_34, L_36, L_38, L_69, L_70, L_72, L_214, L_215, L_288, L_174, L_175, LL_0, LL_1, LL_2, LL_3, LL_5, LL_9, LL_10, LL_11, LL_12, LL_19, LL_20, LL_30, LL_39, LL_60, LL_99, LL_127, LL_999, c1, d1, frankOfAll_e d2 hi', le1T]
  · rintro s ⟨g, rfl⟩
    refine ⟨_, ?_, g, rfl⟩
    unfold mX7_shade_l27
    simp (disch := omega) only [↓reduceIte, obs, esc_il, esc_ir, leT, leF, ltT, ltF, eqT, eqF, nleT, nleF, nltT, nltF, neqT, neqF, nI_add, pk_mul, ald_nI, ast_nI, irm_nI, idv_nI, zbT, zbF, in_T, in_F1, in_F2, nI_l, sI_1, sI_2, sA_1, sA_2, add0, sub0, or0, lN_add, lN_mul, L_0, L_1, L_2, L_3, L_4, L_5, L_6, L_7, L_8, L_9, L_10, L_11, L_12, L_13, L_14, L_15, L_16, L_17, L_18, L_19, L_20, L_30, L_31, L_32, L_35, L_37, L_39, L_40, L_43, L_48, L_57, L_59, L_60, L_97, L_99, L_100, L_120, L_122, L_127, L_160, L_200, L_255, L_999, L_1000, L_100000, L_1000000, L_24, L_33, L_34, L_36, L_38, L_69, L_70, L_72, L_214, L_215, L_288, L_174, L_175, LL_0, LL_1, LL_2, LL_3, LL_5, LL_9, LL_10, LL_11, LL_12, LL_19, LL_20, LL_30, LL_39, LL_60, LL_99, LL_127, LL_999]
theorem shade8_e {M : GS} {f : Nat → Int32} {a : AH} (hp : PV f 200 a) (hi : HI a) (hy : a.2 11 ≤ 999) {n : Nat} (hn : n ≤ 60) (hf : Low (M.1 0) f) : ∃ x, whO (mX8_shade_l40 (nI n)) FU (nI 0 - nI 1, nI 0, nI 0, sA M 0 f) = some x ∧ ∃ f', Low (M.1 0) f' ∧ x = (nI (bsF (fun s => frAll (passA n (aI a 8 s))) 12).2 - nI 1, nI (bsF (fun s => frAll (passA n (aI a 8 s))) 12).1, nI 12, sA M 0 f') := by
  have hb := hi.nb
  refine whO_inv (fun (i : Nat) (s : Int32 × Int32 × Int32 × GS) => ∃ f v, s = (nI (bsF (fun s => frAll (passA n (aI a 8 s))) i).2 - nI 1, nI (bsF (fun s => frAll (passA n (aI a 8 s))) i).1, nI i, sA M 0 f) ∧ Low (M.1 0) f ∧ v ≤ 11 ∧ PV f 200 (aI a 8 v)) 12 _ ?_ ?_ _ ⟨f, a.2 8, rfl, hf, by omega, by rw [aI_id]; exact hp⟩ (by decide)
  · rintro i s hlt ⟨f, v, rfl, el, ev, e1⟩
    left
    have e2 := e1.i8 (hi.i8 v ev) i
    rw [aI_aI] at e2
    have hi8 := hi.i8 i (by omega)
    have hi' := shade_hi hi hy hn (i := i) (by omega)
    have h288 := frAll_le hi'
    have hl := shade_bd hi hy hn (i := i) (by omega)
    have e2' : PV ((sA M 0 (upd f 215 (nI i))).1 0) 200 (aI a 8 i) := by rw [sA_s]; exact e2
    obtain ⟨f3, y1, y2, y3⟩ := yearsGo_e (n := n) e2' hi8 (by omega) (by omega) hy
    rw [sA_s] at y3
    rw [sA_sA] at y1
    have y2' : PV ((sA M 0 f3).1 0) 160 (passA n (aI a 8 i)) := by rw [sA_s]; exact y2
    refine ⟨_, ?_, f3, i, rfl, (el.up 215 (by decide) (nI i)).tr (y3.low (by decide)), by omega, e2.frame hi8 y3 (by omega)⟩
    unfold mX8_shade_l40
    by_cases hc : (bsF (fun s => frAll (passA n (aI a 8 s))) i).2 ≤ frAll (passA n (aI a 8 i))
    · rw [bsF_y hc]
      simp (disch := omega) only [↓reduceIte, obs, esc_il, esc_ir, leT, leF, ltT, ltF, eqT, eqF, nleT, nleF, nltT, nltF, neqT, neqF, nI_add, pk_mul, ald_nI, ast_nI, irm_nI, idv_nI, zbT, zbF, in_T, in_F1, in_F2, nI_l, sI_1, sI_2, sA_1, sA_2, add0, sub0, or0, lN_add, lN_mul, L_0, L_1, L_2, L_3, L_4, L_5, L_6, L_7, L_8, L_9, L_10, L_11, L_12, L_13, L_14, L_15, L_16, L_17, L_18, L_19, L_20, L_30, L_31, L_32, L_35, L_37, L_39, L_40, L_43, L_48, L_57, L_59, L_60, L_97, L_99, L_100, L_120, L_122, L_127, L_160, L_200, L_255, L_999, L_1000, L_100000, L_1000000, L_24, L_33, L_34, L_36, L_38, L_69, L_70, L_72, L_214, L_215, L_288, L_174, L_175, LL_0, LL_1, LL_2, LL_3, LL_5, LL_9, LL_10, LL_11, LL_12, LL_19, LL_20, LL_30, LL_39, LL_60, LL_99, LL_127, LL_999, sA_s, sA_sA, y1, frankOfAll8_e y2' (by decide) hi', le1F, pr1]
    · rw [bsF_n hc]
      simp (disch := omega) only [↓reduceIte, obs, esc_il, esc_ir, leT, leF, ltT, ltF, eqT, eqF, nleT, nleF, nltT, nltF, neqT, neqF, nI_add, pk_mul, ald_nI, ast_nI, irm_nI, idv_nI, zbT, zbF, in_T, in_F1, in_F2, nI_l, sI_1, sI_2, sA_1, sA_2, add0, sub0, or0, lN_add, lN_mul, L_0, L_1, L_2, L_3, L_4, L_5, L_6, L_7, L_8, L_9, L_10, L_11, L_12, L_13, L_14, L_15, L_16, L_17, L_18, L_19, L_20, L_30, L_31, L_32, L_35, L_37, L_39, L_40, L_43, L_48, L_57, L_59, L_60, L_97, L_99, L_100, L_120, L_122, L_127, L_160, L_200, L_255, L_999, L_1000, L_100000, L_1000000, L_24, L_33, L_34, L_36, L_38, L_69, L_70, L_72, L_214, L_215, L_288, L_174, L_175, LL_0, LL_1, LL_2, LL_3, LL_5, LL_9, LL_10, LL_11, LL_12, LL_19, LL_20, LL_30, LL_39, LL_60, LL_99, LL_127, LL_999, sA_s, sA_sA, y1, frankOfAll8_e y2' (by decide) hi', le1T]
  · rintro s ⟨f, v, rfl, el, ev, e1⟩
    refine ⟨_, ?_, f, el, rfl⟩
    unfold mX8_shade_l40
    simp (disch := omega) only [↓reduceIte, obs, esc_il, esc_ir, leT, leF, ltT, ltF, eqT, eqF, nleT, nleF, nltT, nltF, neqT, neqF, nI_add, pk_mul, ald_nI, ast_nI, irm_nI, idv_nI, zbT, zbF, in_T, in_F1, in_F2, nI_l, sI_1, sI_2, sA_1, sA_2, add0, sub0, or0, lN_add, lN_mul, L_0, L_1, L_2, L_3, L_4, L_5, L_6, L_7, L_8, L_9, L_10, L_11, L_12, L_13, L_14, L_15, L_16, L_17, L_18, L_19, L_20, L_30, L_31, L_32, L_35, L_37, L_39, L_40, L_43, L_48, L_57, L_59, L_60, L_97, L_99, L_100, L_120, L_122, L_127, L_160, L_200, L_255, L_999, L_1000, L_100000, L_1000000, L_24, L_33, L_34, L_36, L_38, L_69, L_70, L_72, L_214, L_215, L_288, L_174, L_175, LL_0, LL_1, LL_2, LL_3, LL_5, LL_9, LL_10, LL_11, LL_12, LL_19, LL_20, LL_30, LL_39, LL_60, LL_99, LL_127, LL_999]
theorem st_shade {F : FS} {M : GS} (hR : Rel F M) (n : Int32) (w : Int32) : ∃ (o : Int32 × GS) (o' : Int32 × GS), mX7_shade (F.1 0) (F.1 1) n w = some o ∧ mX8_shade M n w = some o' ∧ o.1 = o'.1 ∧ Rel ((va_up F.1 1 o.2), F.2.1, F.2.2) o'.2 := by
  obtain ⟨⟨a, hv, hp, hi, hy⟩, -⟩ := id hR
  have hb := hi.nb
  unfold mX7_shade mX8_shade
  rcases cs2 n with h | ⟨m, hm, rfl⟩
  · simp (disch := omega) only [↓reduceIte, obs, esc_il, esc_ir, leT, leF, ltT, ltF, eqT, eqF, nleT, nleF, nltT, nltF, neqT, neqF, nI_add, pk_mul, ald_nI, ast_nI, irm_nI, idv_nI, zbT, zbF, in_T, in_F1, in_F2, nI_l, sI_1, sI_2, sA_1, sA_2, add0, sub0, or0, lN_add, lN_mul, L_0, L_1, L_2, L_3, L_4, L_5, L_6, L_7, L_8, L_9, L_10, L_11, L_12, L_13, L_14, L_15, L_16, L_17, L_18, L_19, L_20, L_30, L_31, L_32, L_35, L_37, L_39, L_40, L_43, L_48, L_57, L_59, L_60, L_97, L_99, L_100, L_120, L_122, L_127, L_160, L_200, L_255, L_999, L_1000, L_100000, L_1000000, L_24, L_33, L_34, L_36, L_38, L_69, L_70, L_72, L_214, L_215, L_288, L_174, L_175, LL_0, LL_1, LL_2, LL_3, LL_5, LL_9, LL_10, LL_11, LL_12, LL_19, LL_20, LL_30, LL_39, LL_60, LL_99, LL_127, LL_999, ngLt h, ngLe h, ngGe h, ngGt h, ngEq h, ngEq' h, in_ng h, zb_ng h]
    exact ⟨_, _, rfl, rfl, rfl, hR.same 1⟩
  by_cases hm2 : m ≤ 60
  · rcases pair_cs w with ⟨h1, h2⟩ | rfl | rfl
    · simp (disch := omega) only [↓reduceIte, obs, esc_il, esc_ir, leT, leF, ltT, ltF, eqT, eqF, nleT, nleF, nltT, nltF, neqT, neqF, nI_add, pk_mul, ald_nI, ast_nI, irm_nI, idv_nI, zbT, zbF, in_T, in_F1, in_F2, nI_l, sI_1, sI_2, sA_1, sA_2, add0, sub0, or0, lN_add, lN_mul, L_0, L_1, L_2, L_3, L_4, L_5, L_6, L_7, L_8, L_9, L_10, L_11, L_12, L_13, L_14, L_15, L_16, L_17, L_18, L_19, L_20, L_30, L_31, L_32, L_35, L_37, L_39, L_40, L_43, L_48, L_57, L_59, L_60, L_97, L_99, L_100, L_120, L_122, L_127, L_160, L_200, L_255, L_999, L_1000, L_100000, L_1000000, L_24, L_33, L_34, L_36, L_38, L_69, L_70, L_72, L_214, L_215, L_288, L_174, L_175, LL_0, LL_1, LL_2, LL_3, LL_5, LL_9, LL_10, LL_11, LL_12, LL_19, LL_20, LL_30, LL_39, LL_60, LL_99, LL_127, LL_999, h1, h2]
      exact ⟨_, _, rfl, rfl, rfl, hR.same 1⟩
    all_goals
      obtain ⟨f1, d1, d2, d3⟩ := copies_p (j := 200) hp hi (by omega) (by omega) (by omega)
      obtain ⟨_, k1, g2, rfl⟩ := shade7_e (tr := F.1 1) hv hi hy hm2
      obtain ⟨_, k3, f2, k2, rfl⟩ := shade8_e (M := M) d2 hi hy hm2 (d3.low (by decide))
      simp (disch := omega) only [↓reduceIte, obs, esc_il, esc_ir, leT, leF, ltT, ltF, eqT, eqF, nleT, nleF, nltT, nltF, neqT, neqF, nI_add, pk_mul, ald_nI, ast_nI, irm_nI, idv_nI, zbT, zbF, in_T, in_F1, in_F2, nI_l, sI_1, sI_2, sA_1, sA_2, add0, sub0, or0, lN_add, lN_mul, L_0, L_1, L_2, L_3, L_4, L_5, L_6, L_7, L_8, L_9, L_10, L_11, L_12, L_13, L_14, L_15, L_16, L_17, L_18, L_19, L_20, L_30, L_31, L_32, L_35, L_37, L_39, L_40, L_43, L_48, L_57, L_59, L_60, L_97, L_99, L_100, L_120, L_122, L_127, L_160, L_200, L_255, L_999, L_1000, L_100000, L_1000000, L_24, L_33, L_34, L_36, L_38, L_69, L_70, L_72, L_214, L_215, L_288, L_174, L_175, LL_0, LL_1, LL_2, LL_3, LL_5, LL_9, LL_10, LL_11, LL_12, LL_19, LL_20, LL_30, LL_39, LL_60, LL_99, LL_127, LL_999, mi1, np0, np1, d1, k1, k3]
      exact ⟨_, _, rfl, rfl, rfl, hR.scratch _ k2⟩
  · simp (disch := omega) only [↓reduceIte, obs, esc_il, esc_ir, leT, leF, ltT, ltF, eqT, eqF, nleT, nleF, nltT, nltF, neqT, neqF, nI_add, pk_mul, ald_nI, ast_nI, irm_nI, idv_nI, zbT, zbF, in_T, in_F1, in_F2, nI_l, sI_1, sI_2, sA_1, sA_2, add0, sub0, or0, lN_add, lN_mul, L_0, L_1, L_2, L_3, L_4, L_5, L_6, L_7, L_8, L_9, L_10, L_11, L_12, L_13, L_14, L_15, L_16, L_17, L_18, L_19, L_20, L_30, L_31, L_32, L_35, L_37, L_39, L_40, L_43, L_48, L_57, L_59, L_60, L_97, L_99, L_100, L_120, L_122, L_127, L_160, L_200, L_255, L_999, L_1000, L_100000, L_1000000, L_24, L_33, L_34, L_36, L_38, L_69, L_70, L_72, L_214, L_215, L_288, L_174, L_175, LL_0, LL_1, LL_2, LL_3, LL_5, LL_9, LL_10, LL_11, LL_12, LL_19, LL_20, LL_30, LL_39, LL_60, LL_99, LL_127, LL_999]
    exact ⟨_, _, rfl, rfl, rfl, hR.same 1⟩
/-- chance -/
def chZ (x : Int32) : Nat → Int32
  | 0 => x
  | n + 1 => chZ x n * 1103515245 + 12345
theorem chZ_s (x : Int32) (n : Nat) : chZ x n * 1103515245 + 12345 = chZ x (n + 1) := rfl
def gtN (x : Int32) : Nat := x.toBitVec.toNat / 65536 % 32768
theorem gt7 (x : Int32) : (x.toUInt32 >>> ((16 : Int32).toUInt32 &&& Int32.toUInt32 31)).toInt32 &&& (32767 : Int32) = nI (gtN x) := by
  rw [pk_and _ 15 (by decide), pk_ushr _ _ 16 (by decide)]
  rfl
theorem gt8 (x : Int32) : (x >>> ((16 : Int32) &&& 31)) &&& (32767 : Int32) = nI (gtN x) := by
  rw [pk_and _ 15 (by decide)]
  congr 1
  have h := pk_shr x ((16 : Int32) &&& 31) 16 (by decide)
  rw [Int.shiftRight_eq_div_pow, toInt_c, toInt_c x] at h
  have h1 := (x >>> ((16 : Int32) &&& 31)).toBitVec.isLt
  have h2 := x.toBitVec.isLt
  unfold gtN
  generalize (x >>> ((16 : Int32) &&& 31)).toBitVec.toNat = N at *
  generalize x.toBitVec.toNat = X at *
  split at h <;> split at h <;> omega
def drA (a : AH) (x : Int32) : Nat → AH
  | 0 => a
  | n + 1 => passA 1 (aI (aI (drA a x n) 7 (gtN (chZ x (n + 1)) % 6)) 8 (gtN (chZ x (n + 1)) / 8 % 12))
theorem drA_hi {a : AH} (hi : HI a) (hy : a.2 11 ≤ 999) (x : Int32) : ∀ n, n ≤ 60 → HI (drA a x n) ∧ (drA a x n).2 11 = a.2 11 + n
  | 0, _ => ⟨hi, rfl⟩
  | n + 1, h => by
    obtain ⟨h1, h2⟩ := drA_hi hi hy x n (by omega)
    refine ⟨passA_HI ((h1.i7 _ (by omega)).i8 _ (by omega)) 1 ?_, ?_⟩
    · show (drA a x n).2 11 + 1 ≤ 2000
      omega
    · show (drA a x n).2 11 + 1 = _
      omega
def drS (a : AH) (x : Int32) (n : Nat) : Nat := sumN (fun k => frAll (drA a x (k + 1))) n
def drL (a : AH) (x : Int32) : Nat → Nat
  | 0 => 0
  | n + 1 => frAll (drA a x (n + 1))
theorem gtN_lt (x : Int32) : gtN x < 32768 := by
  unfold gtN; omega
def got7 (c : Int32) : Int32 := (c.toUInt32 >>> ((16 : Int32).toUInt32 &&& Int32.toUInt32 31)).toInt32 &&& (32767 : Int32)
theorem drift7_u (n : Int32) (s13 : Int32 × Int32 × Int32 × Int32 × GS) : mX7_drift_l43 n s13 = (if n ≤ s13.2.2.2.1 then
    some (.inr (s13.1, s13.2.1, s13.2.2.1, s13.2.2.2.1, s13.2.2.2.2))
  else
    Option.bind (irm (got7 (s13.1 * (1103515245 : Int32) + (12345 : Int32))) (6 : Int32)) fun v15 =>
    Option.bind (idv (got7 (s13.1 * (1103515245 : Int32) + (12345 : Int32))) (8 : Int32)) fun v16 =>
    Option.bind (irm v16 (12 : Int32)) fun v17 =>
    Option.bind (mX0_pass (sI (sI s13.2.2.2.2 7 v15) 8 v17) (1 : Int32)) fun v18 =>
    Option.bind (mX0_frankOfAll v18) fun v19 =>
    some (.inl (((s13.1 * (1103515245 : Int32)) + (12345 : Int32)), (s13.2.1 + v19), v19, (s13.2.2.2.1 + (1 : Int32)), v18))) := rfl
theorem drift7_s {g g2 : GS} {c C : Int32} {S l G v i n : Nat} (hC : c * (1103515245 : Int32) + (12345 : Int32) = C) (hc : got7 C = nI G) (hG : G < 32768) (d1 : mX0_pass (sI (sI g 7 (nI (G % 6))) 8 (nI (G / 8 % 12))) (nI 1) = some g2) (hF : mX0_frankOfAll g2 = some (nI v)) (hi : i < n) (hn : n ≤ 60) : mX7_drift_l43 (nI n) (c, nI S, nI l, nI i, g) = some (.inl (C, nI (S + v), nI v, nI (i + 1), g2)) := by
  rw [drift7_u]
  simp only [hC, hc]
  rw [if_neg (nI_ge hi (by omega)), L_6, irm_nI (by omega) (by decide) (by decide), obs, L_8, idv_nI (by omega) (by decide) (by decide), obs, L_12, irm_nI (by omega) (by decide) (by decide), obs, L_1, d1, obs, hF, obs, nI_add, nI_add]
theorem drift7_e {g : GS} {a : AH} (hv : HV g a) (hi : HI a) (hy : a.2 11 ≤ 999) (x : Int32) {n : Nat} (hn : n ≤ 60) : ∃ z, whO (mX7_drift_l43 (nI n)) FU (x, nI 0, nI 0, nI 0, g) = some z ∧ ∃ g', z = (chZ x n, nI (drS a x n), nI (drL a x n), nI n, g') := by
  refine whO_inv (fun (i : Nat) (s : Int32 × Int32 × Int32 × Int32 × GS) => ∃ g, s = (chZ x i, nI (drS a x i), nI (drL a x i), nI i, g) ∧ HV g (drA a x i)) n _ ?_ ?_ _ ⟨g, rfl, hv⟩ (by omega)
  · rintro i s hlt ⟨g, rfl, e1⟩
    left
    obtain ⟨h1, h2⟩ := drA_hi hi hy x i (by omega)
    obtain ⟨h3, -⟩ := drA_hi hi hy x (i + 1) (by omega)
    have hg := gtN_lt (chZ x (i + 1))
    have e2 := (e1.i7 (gtN (chZ x (i + 1)) % 6)).i8 (gtN (chZ x (i + 1)) / 8 % 12)
    obtain ⟨g2, d1, d2⟩ := pass_e e2 ((h1.i7 _ (by omega)).i8 _ (by omega)) (n := 1) (by decide)
    have d2' : HV g2 (drA a x (i + 1)) := d2
    exact ⟨(chZ x (i + 1), nI (drS a x (i + 1)), nI (drL a x (i + 1)), nI (i + 1), g2), drift7_s (chZ_s x i) (gt7 _) hg d1 (frankOfAll_e d2' h3) hlt hn, g2, rfl, d2'⟩
  · rintro s ⟨g, rfl, e1⟩
    refine ⟨_, ?_, g, rfl⟩
    unfold mX7_drift_l43
    simp (disch := omega) only [↓reduceIte, obs, esc_il, esc_ir, leT, leF, ltT, ltF, eqT, eqF, nleT, nleF, nltT, nltF, neqT, neqF, nI_add, pk_mul, ald_nI, ast_nI, irm_nI, idv_nI, zbT, zbF, in_T, in_F1, in_F2, nI_l, sI_1, sI_2, sA_1, sA_2, add0, sub0, or0, lN_add, lN_mul, L_0, L_1, L_2, L_3, L_4, L_5, L_6, L_7, L_8, L_9, L_10, L_11, L_12, L_13, L_14, L_15, L_16, L_17, L_18, L_19, L_20, L_30, L_31, L_32, L_35, L_37, L_39, L_40, L_43, L_48, L_57, L_59, L_60, L_97, L_99, L_100, L_120, L_122, L_127, L_160, L_200, L_255, L_999, L_1000, L_100000, L_1000000, L_24, L_33, L_34, L_36, L_38, L_69, L_70, L_72, L_214, L_215, L_288, L_174, L_175, LL_0, LL_1, LL_2, LL_3, LL_5, LL_9, LL_10, LL_11, LL_12, LL_19, LL_20, LL_30, LL_39, LL_60, LL_99, LL_127, LL_999]
theorem drift8_e {M : GS} {f : Nat → Int32} {a : AH} (hp : PV f 160 a) (hi : HI a) (hy : a.2 11 ≤ 999) (hf : Low (M.1 0) f) (x : Int32) {n : Nat} (hn : n ≤ 60) : ∃ z, whO (mX8_drift_l44 (nI n)) FU (x, nI 0, nI 0, nI 0, sA M 0 f) = some z ∧ ∃ f', Low (M.1 0) f' ∧ z = (chZ x n, nI (drS a x n), nI (drL a x n), nI n, sA M 0 f') := by
  refine whO_inv (fun (i : Nat) (s : Int32 × Int32 × Int32 × Int32 × GS) => ∃ f, s = (chZ x i, nI (drS a x i), nI (drL a x i), nI i, sA M 0 f) ∧ Low (M.1 0) f ∧ PV f 160 (drA a x i)) n _ ?_ ?_ _ ⟨f, rfl, hf, hp⟩ (by omega)
  · rintro i s hlt ⟨f, rfl, el, e1⟩
    left
    obtain ⟨h1, h2⟩ := drA_hi hi hy x i (by omega)
    obtain ⟨h3, -⟩ := drA_hi hi hy x (i + 1) (by omega)
    have hg := gtN_lt (chZ x (i + 1))
    have h17 := h1.i7 (gtN (chZ x (i + 1)) % 6) (by omega)
    have h18 := h17.i8 (gtN (chZ x (i + 1)) / 8 % 12) (by omega)
    have e2 := (e1.i7 h1 (gtN (chZ x (i + 1)) % 6)).i8 h17 (gtN (chZ x (i + 1)) / 8 % 12)
    have e2' : PV ((sA M 0 (upd (upd f 174 (nI (gtN (chZ x (i + 1)) % 6))) 175 (nI (gtN (chZ x (i + 1)) / 8 % 12)))).1 0) 160 (aI (aI (drA a x i) 7 (gtN (chZ x (i + 1)) % 6)) 8 (gtN (chZ x (i + 1)) / 8 % 12)) := by rw [sA_s]; exact e2
    obtain ⟨f2, d1, d2, d3⟩ := yearOn_e e2' (by decide) h18
    rw [sA_sA] at d1
    rw [sA_s] at d3
    have d2' : PV ((sA M 0 f2).1 0) 160 (drA a x (i + 1)) := by rw [sA_s]; exact d2
    refine ⟨_, ?_, f2, rfl, ((el.up 174 (by decide) _).up 175 (by decide) _).tr (d3.low (by decide)), d2⟩
    unfold mX8_drift_l44
    simp only [chZ_s, gt8]
    simp (disch := omega) only [↓reduceIte, obs, esc_il, esc_ir, leT, leF, ltT, ltF, eqT, eqF, nleT, nleF, nltT, nltF, neqT, neqF, nI_add, pk_mul, ald_nI, ast_nI, irm_nI, idv_nI, zbT, zbF, in_T, in_F1, in_F2, nI_l, sI_1, sI_2, sA_1, sA_2, add0, sub0, or0, lN_add, lN_mul, L_0, L_1, L_2, L_3, L_4, L_5, L_6, L_7, L_8, L_9, L_10, L_11, L_12, L_13, L_14, L_15, L_16, L_17, L_18, L_19, L_20, L_30, L_31, L_32, L_35, L_37, L_39, L_40, L_43, L_48, L_57, L_59, L_60, L_97, L_99, L_100, L_120, L_122, L_127, L_160, L_200, L_255, L_999, L_1000, L_100000, L_1000000, L_24, L_33, L_34, L_36, L_38, L_69, L_70, L_72, L_214, L_215, L_288, L_174, L_175, LL_0, LL_1, LL_2, LL_3, LL_5, LL_9, LL_10, LL_11, LL_12, LL_19, LL_20, LL_30, LL_39, LL_60, LL_99, LL_127, LL_999, L_174, L_175, sA_s, sA_sA, d1, frankOfAll8_e d2' (by decide) h3, drS, drL, sumN]
  · rintro s ⟨f, rfl, el, e1⟩
    refine ⟨_, ?_, f, el, rfl⟩
    unfold mX8_drift_l44
    simp (disch := omega) only [↓reduceIte, obs, esc_il, esc_ir, leT, leF, ltT, ltF, eqT, eqF, nleT, nleF, nltT, nltF, neqT, neqF, nI_add, pk_mul, ald_nI, ast_nI, irm_nI, idv_nI, zbT, zbF, in_T, in_F1, in_F2, nI_l, sI_1, sI_2, sA_1, sA_2, add0, sub0, or0, lN_add, lN_mul, L_0, L_1, L_2, L_3, L_4, L_5, L_6, L_7, L_8, L_9, L_10, L_11, L_12, L_13, L_14, L_15, L_16, L_17, L_18, L_19, L_20, L_30, L_31, L_32, L_35, L_37, L_39, L_40, L_43, L_48, L_57, L_59, L_60, L_97, L_99, L_100, L_120, L_122, L_127, L_160, L_200, L_255, L_999, L_1000, L_100000, L_1000000, L_24, L_33, L_34, L_36, L_38, L_69, L_70, L_72, L_214, L_215, L_288, L_174, L_175, LL_0, LL_1, LL_2, LL_3, LL_5, LL_9, LL_10, LL_11, LL_12, LL_19, LL_20, LL_30, LL_39, LL_60, LL_99, LL_127, LL_999]
theorem st_drift {F : FS} {M : GS} (hR : Rel F M) (x : Int32) (n : Int32) (w : Int32) : ∃ (o : Int32 × GS) (o' : Int32 × GS), mX7_drift (F.1 0) (F.1 1) x n w = some o ∧ mX8_drift M x n w = some o' ∧ o.1 = o'.1 ∧ Rel ((va_up F.1 1 o.2), F.2.1, F.2.2) o'.2 := by
  obtain ⟨⟨a, hv, hp, hi, hy⟩, -⟩ := id hR
  have hb := hi.nb
  unfold mX7_drift mX8_drift
  rcases cs2 n with h | ⟨m, hm, rfl⟩
  · simp (disch := omega) only [↓reduceIte, obs, esc_il, esc_ir, leT, leF, ltT, ltF, eqT, eqF, nleT, nleF, nltT, nltF, neqT, neqF, nI_add, pk_mul, ald_nI, ast_nI, irm_nI, idv_nI, zbT, zbF, in_T, in_F1, in_F2, nI_l, sI_1, sI_2, sA_1, sA_2, add0, sub0, or0, lN_add, lN_mul, L_0, L_1, L_2, L_3, L_4, L_5, L_6, L_7, L_8, L_9, L_10, L_11, L_12, L_13, L_14, L_15, L_16, L_17, L_18, L_19, L_20, L_30, L_31, L_32, L_35, L_37, L_39, L_40, L_43, L_48, L_57, L_59, L_60, L_97, L_99, L_100, L_120, L_122, L_127, L_160, L_200, L_255, L_999, L_1000, L_100000, L_1000000, L_24, L_33, L_34, L_36, L_38, L_69, L_70, L_72, L_214, L_215, L_288, L_174, L_175, LL_0, LL_1, LL_2, LL_3, LL_5, LL_9, LL_10, LL_11, LL_12, LL_19, LL_20, LL_30, LL_39, LL_60, LL_99, LL_127, LL_999, ngLt h, ngLe h, ngGe h, ngGt h, ngEq h, ngEq' h, in_ng h, zb_ng h]
    exact ⟨_, _, rfl, rfl, rfl, hR.same 1⟩
  rcases (show m = 0 ∨ 60 < m ∨ (1 ≤ m ∧ m ≤ 60) by omega) with rfl | hm2 | hm2
  · simp (disch := omega) only [↓reduceIte, obs, esc_il, esc_ir, leT, leF, ltT, ltF, eqT, eqF, nleT, nleF, nltT, nltF, neqT, neqF, nI_add, pk_mul, ald_nI, ast_nI, irm_nI, idv_nI, zbT, zbF, in_T, in_F1, in_F2, nI_l, sI_1, sI_2, sA_1, sA_2, add0, sub0, or0, lN_add, lN_mul, L_0, L_1, L_2, L_3, L_4, L_5, L_6, L_7, L_8, L_9, L_10, L_11, L_12, L_13, L_14, L_15, L_16, L_17, L_18, L_19, L_20, L_30, L_31, L_32, L_35, L_37, L_39, L_40, L_43, L_48, L_57, L_59, L_60, L_97, L_99, L_100, L_120, L_122, L_127, L_160, L_200, L_255, L_999, L_1000, L_100000, L_1000000, L_24, L_33, L_34, L_36, L_38, L_69, L_70, L_72, L_214, L_215, L_288, L_174, L_175, LL_0, LL_1, LL_2, LL_3, LL_5, LL_9, LL_10, LL_11, LL_12, LL_19, LL_20, LL_30, LL_39, LL_60, LL_99, LL_127, LL_999]
    exact ⟨_, _, rfl, rfl, rfl, hR.same 1⟩
  · simp (disch := omega) only [↓reduceIte, obs, esc_il, esc_ir, leT, leF, ltT, ltF, eqT, eqF, nleT, nleF, nltT, nltF, neqT, neqF, nI_add, pk_mul, ald_nI, ast_nI, irm_nI, idv_nI, zbT, zbF, in_T, in_F1, in_F2, nI_l, sI_1, sI_2, sA_1, sA_2, add0, sub0, or0, lN_add, lN_mul, L_0, L_1, L_2, L_3, L_4, L_5, L_6, L_7, L_8, L_9, L_10, L_11, L_12, L_13, L_14, L_15, L_16, L_17, L_18, L_19, L_20, L_30, L_31, L_32, L_35, L_37, L_39, L_40, L_43, L_48, L_57, L_59, L_60, L_97, L_99, L_100, L_120, L_122, L_127, L_160, L_200, L_255, L_999, L_1000, L_100000, L_1000000, L_24, L_33, L_34, L_36, L_38, L_69, L_70, L_72, L_214, L_215, L_288, L_174, L_175, LL_0, LL_1, LL_2, LL_3, LL_5, LL_9, LL_10, LL_11, LL_12, LL_19, LL_20, LL_30, LL_39, LL_60, LL_99, LL_127, LL_999]
    exact ⟨_, _, rfl, rfl, rfl, hR.same 1⟩
  · rcases pair_cs w with ⟨h1, h2⟩ | rfl | rfl
    · simp (disch := omega) only [↓reduceIte, obs, esc_il, esc_ir, leT, leF, ltT, ltF, eqT, eqF, nleT, nleF, nltT, nltF, neqT, neqF, nI_add, pk_mul, ald_nI, ast_nI, irm_nI, idv_nI, zbT, zbF, in_T, in_F1, in_F2, nI_l, sI_1, sI_2, sA_1, sA_2, add0, sub0, or0, lN_add, lN_mul, L_0, L_1, L_2, L_3, L_4, L_5, L_6, L_7, L_8, L_9, L_10, L_11, L_12, L_13, L_14, L_15, L_16, L_17, L_18, L_19, L_20, L_30, L_31, L_32, L_35, L_37, L_39, L_40, L_43, L_48, L_57, L_59, L_60, L_97, L_99, L_100, L_120, L_122, L_127, L_160, L_200, L_255, L_999, L_1000, L_100000, L_1000000, L_24, L_33, L_34, L_36, L_38, L_69, L_70, L_72, L_214, L_215, L_288, L_174, L_175, LL_0, LL_1, LL_2, LL_3, LL_5, LL_9, LL_10, LL_11, LL_12, LL_19, LL_20, LL_30, LL_39, LL_60, LL_99, LL_127, LL_999, h1, h2]
      exact ⟨_, _, rfl, rfl, rfl, hR.same 1⟩
    all_goals
      obtain ⟨g1, c1, c2⟩ := copy_e (g := F.1 1) hv hi
      obtain ⟨f1, d1, d2, d3⟩ := copies_p (j := 160) hp hi (by omega) (by omega) (by omega)
      obtain ⟨_, k1, g2, rfl⟩ := drift7_e c2 hi hy x hm2.2
      obtain ⟨_, k3, f2, k2, rfl⟩ := drift8_e (M := M) d2 hi hy (d3.low (by decide)) x hm2.2
      simp (disch := omega) only [↓reduceIte, obs, esc_il, esc_ir, leT, leF, ltT, ltF, eqT, eqF, nleT, nleF, nltT, nltF, neqT, neqF, nI_add, pk_mul, ald_nI, ast_nI, irm_nI, idv_nI, zbT, zbF, in_T, in_F1, in_F2, nI_l, sI_1, sI_2, sA_1, sA_2, add0, sub0, or0, lN_add, lN_mul, L_0, L_1, L_2, L_3, L_4, L_5, L_6, L_7, L_8, L_9, L_10, L_11, L_12, L_13, L_14, L_15, L_16, L_17, L_18, L_19, L_20, L_30, L_31, L_32, L_35, L_37, L_39, L_40, L_43, L_48, L_57, L_59, L_60, L_97, L_99, L_100, L_120, L_122, L_127, L_160, L_200, L_255, L_999, L_1000, L_100000, L_1000000, L_24, L_33, L_34, L_36, L_38, L_69, L_70, L_72, L_214, L_215, L_288, L_174, L_175, LL_0, LL_1, LL_2, LL_3, LL_5, LL_9, LL_10, LL_11, LL_12, LL_19, LL_20, LL_30, LL_39, LL_60, LL_99, LL_127, LL_999, np0, np1, c1, d1, k1, k3]
      exact ⟨_, _, rfl, rfl, rfl, hR.scratch _ k2⟩
