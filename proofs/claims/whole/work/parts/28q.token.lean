/-! one token, in both -/
theorem lxS_f {n : Nat} {c : Nat → Nat} {p : Nat} (hp : p ≤ n) (hn : n ≤ 160) : p ≤ lxS n c p ∧ lxS n c p ≤ n ∧ inB n c 32 32 (lxS n c p) = false ∧ ∀ q, p ≤ q → q < lxS n c p → inB n c 32 32 q = true :=
  ⟨(scn_ge _ 200 p).1, scn_le _ (fun q h => inB_o q h) hp, scn_out _ (fun q h => inB_o q h) 200 p (by omega), fun q h1 h2 => scn_in _ 200 p q h1 h2⟩
theorem st_f {n : Nat} {c : Nat → Nat} {lo hi s : Nat} (hs : s ≤ n) (hn : n ≤ 160) : s ≤ scn (inB n c lo hi) 200 s ∧ scn (inB n c lo hi) 200 s ≤ n ∧ inB n c lo hi (scn (inB n c lo hi) 200 s) = false ∧ ∀ q, s ≤ q → q < scn (inB n c lo hi) 200 s → inB n c lo hi q = true :=
  ⟨(scn_ge _ 200 s).1, scn_le _ (fun q h => inB_o q h) hs, scn_out _ (fun q h => inB_o q h) 200 s (by omega), fun q h1 h2 => scn_in _ 200 s q h1 h2⟩
theorem Tp.ch {rd M : GS} {n : Nat} {c : Nat → Nat} (hT : Tp rd M n c) : ∀ j, j < n → c j < 128 := fun j hj => (hT.2.2.2 j hj).1
theorem Tp.le {rd M : GS} {n : Nat} {c : Nat → Nat} (hT : Tp rd M n c) : n ≤ 160 := hT.1
theorem Tp.r {rd M : GS} {n : Nat} {c : Nat → Nat} (hT : Tp rd M n c) : rd.2 2 = nI n := hT.2.1
section
variable {rd M : GS} {n : Nat} {c : Nat → Nat}
theorem skip7 (hT : Tp rd M n c) {p : Nat} (hp : p ≤ n) (fa fp tk sp nu lt : Int32) : whO (mX5_nextToken_l8) FU (rdS rd fa fp tk (nI p) sp nu lt) = some (rdS rd fa fp tk (nI (lxS n c p)) sp nu lt) := by
  have hn := hT.le
  obtain ⟨f1, f2, f3, f4⟩ := lxS_f (c := c) hp hn
  refine whO_for (fun d => rdS rd fa fp tk (nI (p + d)) sp nu lt) (lxS n c p - p) _ rfl ?_ ?_ (by omega)
  · intro d hd
    obtain ⟨g1, g2, g3⟩ := inB_t.mp (f4 (p + d) (by omega) (by omega))
    have e : bt n c (p + d) = nI 32 := by rw [bt_y g1]; congr 1; omega
    unfold mX5_nextToken_l8
    simp (disch := omega) only [↓reduceIte, obs, esc_il, esc_ir, leT, leF, ltT, ltF, eqT, eqF, nleT, nleF, nltT, nltF, neqT, neqF, nI_add, pk_mul, ald_nI, ast_nI, irm_nI, idv_nI, zbT, zbF, in_T, in_F1, in_F2, nI_l, sI_1, sI_2, sA_1, sA_2, subK, add0, sub0, or0, lN_add, lN_mul, L_0, L_1, L_2, L_3, L_4, L_5, L_6, L_7, L_8, L_9, L_10, L_11, L_12, L_13, L_14, L_15, L_16, L_17, L_18, L_19, L_20, L_30, L_31, L_32, L_35, L_37, L_39, L_40, L_43, L_48, L_57, L_59, L_60, L_97, L_99, L_100, L_120, L_122, L_127, L_160, L_200, L_255, L_999, L_1000, L_100000, L_1000000, L_24, L_33, L_34, L_36, L_38, L_69, L_70, L_72, L_214, L_215, L_288, L_174, L_175, L_206, LL_0, LL_1, LL_2, LL_3, LL_5, LL_7, LL_9, LL_10, LL_11, LL_12, LL_19, LL_20, LL_30, LL_39, LL_48, LL_57, LL_60, LL_97, LL_99, LL_122, LL_127, LL_999, rd_1, rd_2, rd_3, rd_4, rd_5, rd_6, rd_7, rd_8, rd_9, rd_s3, rd_s4, rd_s5, rd_s6, rd_s7, rd_s8, rd_s9, hT.r, byte7 hT, e, Nat.add_assoc]
  · rw [show p + (lxS n c p - p) = lxS n c p by omega]
    unfold mX5_nextToken_l8
    by_cases h : lxS n c p < n
    · have e : ¬ bt n c (lxS n c p) = nI 32 := by
        rw [btE hT.ch _ (by decide)]
        have := inB_f.mp f3
        omega
      simp (disch := omega) only [↓reduceIte, obs, esc_il, esc_ir, leT, leF, ltT, ltF, eqT, eqF, nleT, nleF, nltT, nltF, neqT, neqF, nI_add, pk_mul, ald_nI, ast_nI, irm_nI, idv_nI, zbT, zbF, in_T, in_F1, in_F2, nI_l, sI_1, sI_2, sA_1, sA_2, subK, add0, sub0, or0, lN_add, lN_mul, L_0, L_1, L_2, L_3, L_4, L_5, L_6, L_7, L_8, L_9, L_10, L_11, L_12, L_13, L_14, L_15, L_16, L_17, L_18, L_19, L_20, L_30, L_31, L_32, L_35, L_37, L_39, L_40, L_43, L_48, L_57, L_59, L_60, L_97, L_99, L_100, L_120, L_122, L_127, L_160, L_200, L_255, L_999, L_1000, L_100000, L_1000000, L_24, L_33, L_34, L_36, L_38, L_69, L_70, L_72, L_214, L_215, L_288, L_174, L_175, L_206, LL_0, LL_1, LL_2, LL_3, LL_5, LL_7, LL_9, LL_10, LL_11, LL_12, LL_19, LL_20, LL_30, LL_39, LL_48, LL_57, LL_60, LL_97, LL_99, LL_122, LL_127, LL_999, rd_1, rd_2, rd_3, rd_4, rd_5, rd_6, rd_7, rd_8, rd_9, rd_s3, rd_s4, rd_s5, rd_s6, rd_s7, rd_s8, rd_s9, hT.r, byte7 hT, e]
    · simp (disch := omega) only [↓reduceIte, obs, esc_il, esc_ir, leT, leF, ltT, ltF, eqT, eqF, nleT, nleF, nltT, nltF, neqT, neqF, nI_add, pk_mul, ald_nI, ast_nI, irm_nI, idv_nI, zbT, zbF, in_T, in_F1, in_F2, nI_l, sI_1, sI_2, sA_1, sA_2, subK, add0, sub0, or0, lN_add, lN_mul, L_0, L_1, L_2, L_3, L_4, L_5, L_6, L_7, L_8, L_9, L_10, L_11, L_12, L_13, L_14, L_15, L_16, L_17, L_18, L_19, L_20, L_30, L_31, L_32, L_35, L_37, L_39, L_40, L_43, L_48, L_57, L_59, L_60, L_97, L_99, L_100, L_120, L_122, L_127, L_160, L_200, L_255, L_999, L_1000, L_100000, L_1000000, L_24, L_33, L_34, L_36, L_38, L_69, L_70, L_72, L_214, L_215, L_288, L_174, L_175, L_206, LL_0, LL_1, LL_2, LL_3, LL_5, LL_7, LL_9, LL_10, LL_11, LL_12, LL_19, LL_20, LL_30, LL_39, LL_48, LL_57, LL_60, LL_97, LL_99, LL_122, LL_127, LL_999, rd_1, rd_2, rd_3, rd_4, rd_5, rd_6, rd_7, rd_8, rd_9, rd_s3, rd_s4, rd_s5, rd_s6, rd_s7, rd_s8, rd_s9, hT.r]
theorem skip8 (hT : Tp rd M n c) {p : Nat} (hp : p ≤ n) (rp : Nat → Int32) (td br bp he tk va : Int32) : whO (mX8_step_l8) FU (mdS M rp td br bp (nI p) he tk va) = some (mdS M rp td br bp (nI (lxS n c p)) he tk va) := by
  have hn := hT.le
  obtain ⟨f1, f2, f3, f4⟩ := lxS_f (c := c) hp hn
  refine whO_for (fun d => mdS M rp td br bp (nI (p + d)) he tk va) (lxS n c p - p) _ rfl ?_ ?_ (by omega)
  · intro d hd
    obtain ⟨g1, g2, g3⟩ := inB_t.mp (f4 (p + d) (by omega) (by omega))
    have e : bt n c (p + d) = nI 32 := by rw [bt_y g1]; congr 1; omega
    unfold mX8_step_l8
    simp (disch := omega) only [↓reduceIte, obs, esc_il, esc_ir, leT, leF, ltT, ltF, eqT, eqF, nleT, nleF, nltT, nltF, neqT, neqF, nI_add, pk_mul, ald_nI, ast_nI, irm_nI, idv_nI, zbT, zbF, in_T, in_F1, in_F2, nI_l, sI_1, sI_2, sA_1, sA_2, subK, add0, sub0, or0, lN_add, lN_mul, L_0, L_1, L_2, L_3, L_4, L_5, L_6, L_7, L_8, L_9, L_10, L_11, L_12, L_13, L_14, L_15, L_16, L_17, L_18, L_19, L_20, L_30, L_31, L_32, L_35, L_37, L_39, L_40, L_43, L_48, L_57, L_59, L_60, L_97, L_99, L_100, L_120, L_122, L_127, L_160, L_200, L_255, L_999, L_1000, L_100000, L_1000000, L_24, L_33, L_34, L_36, L_38, L_69, L_70, L_72, L_214, L_215, L_288, L_174, L_175, L_206, LL_0, LL_1, LL_2, LL_3, LL_5, LL_7, LL_9, LL_10, LL_11, LL_12, LL_19, LL_20, LL_30, LL_39, LL_48, LL_57, LL_60, LL_97, LL_99, LL_122, LL_127, LL_999, md_0, md_1, md_t, md_12, md_13, md_2, md_4, md_6, md_7, md_8, md_9, md_10, md_11, md_s, md_s2, md_s6, md_s7, md_s8, md_s9, md_s10, md_s11, byte8 hT, e, Nat.add_assoc]
  · rw [show p + (lxS n c p - p) = lxS n c p by omega]
    unfold mX8_step_l8
    have e : ¬ bt n c (lxS n c p) = nI 32 := by
      rw [btE hT.ch _ (by decide)]
      have := inB_f.mp f3
      omega
    simp (disch := omega) only [↓reduceIte, obs, esc_il, esc_ir, leT, leF, ltT, ltF, eqT, eqF, nleT, nleF, nltT, nltF, neqT, neqF, nI_add, pk_mul, ald_nI, ast_nI, irm_nI, idv_nI, zbT, zbF, in_T, in_F1, in_F2, nI_l, sI_1, sI_2, sA_1, sA_2, subK, add0, sub0, or0, lN_add, lN_mul, L_0, L_1, L_2, L_3, L_4, L_5, L_6, L_7, L_8, L_9, L_10, L_11, L_12, L_13, L_14, L_15, L_16, L_17, L_18, L_19, L_20, L_30, L_31, L_32, L_35, L_37, L_39, L_40, L_43, L_48, L_57, L_59, L_60, L_97, L_99, L_100, L_120, L_122, L_127, L_160, L_200, L_255, L_999, L_1000, L_100000, L_1000000, L_24, L_33, L_34, L_36, L_38, L_69, L_70, L_72, L_214, L_215, L_288, L_174, L_175, L_206, LL_0, LL_1, LL_2, LL_3, LL_5, LL_7, LL_9, LL_10, LL_11, LL_12, LL_19, LL_20, LL_30, LL_39, LL_48, LL_57, LL_60, LL_97, LL_99, LL_122, LL_127, LL_999, md_0, md_1, md_t, md_12, md_13, md_2, md_4, md_6, md_7, md_8, md_9, md_10, md_11, md_s, md_s2, md_s6, md_s7, md_s8, md_s9, md_s10, md_s11, byte8 hT, e]
theorem lett7_e (hT : Tp rd M n c) {s : Nat} (hs : s ≤ n) (fa fp tk st nu lt : Int32) : whO (mX5_takeLetters_l0) FU (rdS rd fa fp tk st (nI s) nu lt) = some (rdS rd fa fp tk st (nI (scn (inB n c 97 122) 200 s)) nu lt) := by
  have hn := hT.le
  obtain ⟨f1, f2, f3, f4⟩ := st_f (c := c) (lo := 97) (hi := 122) hs hn
  refine whO_for (fun d => rdS rd fa fp tk st (nI (s + d)) nu lt) (scn (inB n c 97 122) 200 s - s) _ rfl ?_ ?_ (by omega)
  · intro d hd
    have g0 := f4 (s + d) (by omega) (by omega)
    obtain ⟨g1, g2, g3⟩ := inB_t.mp g0
    unfold mX5_takeLetters_l0
    simp (disch := omega) only [↓reduceIte, obs, esc_il, esc_ir, leT, leF, ltT, ltF, eqT, eqF, nleT, nleF, nltT, nltF, neqT, neqF, nI_add, pk_mul, ald_nI, ast_nI, irm_nI, idv_nI, zbT, zbF, in_T, in_F1, in_F2, nI_l, sI_1, sI_2, sA_1, sA_2, subK, add0, sub0, or0, lN_add, lN_mul, L_0, L_1, L_2, L_3, L_4, L_5, L_6, L_7, L_8, L_9, L_10, L_11, L_12, L_13, L_14, L_15, L_16, L_17, L_18, L_19, L_20, L_30, L_31, L_32, L_35, L_37, L_39, L_40, L_43, L_48, L_57, L_59, L_60, L_97, L_99, L_100, L_120, L_122, L_127, L_160, L_200, L_255, L_999, L_1000, L_100000, L_1000000, L_24, L_33, L_34, L_36, L_38, L_69, L_70, L_72, L_214, L_215, L_288, L_174, L_175, L_206, LL_0, LL_1, LL_2, LL_3, LL_5, LL_7, LL_9, LL_10, LL_11, LL_12, LL_19, LL_20, LL_30, LL_39, LL_48, LL_57, LL_60, LL_97, LL_99, LL_122, LL_127, LL_999, rd_1, rd_2, rd_3, rd_4, rd_5, rd_6, rd_7, rd_8, rd_9, rd_s3, rd_s4, rd_s5, rd_s6, rd_s7, rd_s8, rd_s9, hT.r, byte7 hT, lett7 hT.ch, g0, bN, Nat.add_assoc]
  · rw [show s + (scn (inB n c 97 122) 200 s - s) = scn (inB n c 97 122) 200 s by omega]
    unfold mX5_takeLetters_l0
    by_cases h : scn (inB n c 97 122) 200 s < n
    · simp (disch := omega) only [↓reduceIte, obs, esc_il, esc_ir, leT, leF, ltT, ltF, eqT, eqF, nleT, nleF, nltT, nltF, neqT, neqF, nI_add, pk_mul, ald_nI, ast_nI, irm_nI, idv_nI, zbT, zbF, in_T, in_F1, in_F2, nI_l, sI_1, sI_2, sA_1, sA_2, subK, add0, sub0, or0, lN_add, lN_mul, L_0, L_1, L_2, L_3, L_4, L_5, L_6, L_7, L_8, L_9, L_10, L_11, L_12, L_13, L_14, L_15, L_16, L_17, L_18, L_19, L_20, L_30, L_31, L_32, L_35, L_37, L_39, L_40, L_43, L_48, L_57, L_59, L_60, L_97, L_99, L_100, L_120, L_122, L_127, L_160, L_200, L_255, L_999, L_1000, L_100000, L_1000000, L_24, L_33, L_34, L_36, L_38, L_69, L_70, L_72, L_214, L_215, L_288, L_174, L_175, L_206, LL_0, LL_1, LL_2, LL_3, LL_5, LL_7, LL_9, LL_10, LL_11, LL_12, LL_19, LL_20, LL_30, LL_39, LL_48, LL_57, LL_60, LL_97, LL_99, LL_122, LL_127, LL_999, rd_1, rd_2, rd_3, rd_4, rd_5, rd_6, rd_7, rd_8, rd_9, rd_s3, rd_s4, rd_s5, rd_s6, rd_s7, rd_s8, rd_s9, hT.r, byte7 hT, lett7 hT.ch, f3, bN, Bool.false_eq_true]
    · simp (disch := omega) only [↓reduceIte, obs, esc_il, esc_ir, leT, leF, ltT, ltF, eqT, eqF, nleT, nleF, nltT, nltF, neqT, neqF, nI_add, pk_mul, ald_nI, ast_nI, irm_nI, idv_nI, zbT, zbF, in_T, in_F1, in_F2, nI_l, sI_1, sI_2, sA_1, sA_2, subK, add0, sub0, or0, lN_add, lN_mul, L_0, L_1, L_2, L_3, L_4, L_5, L_6, L_7, L_8, L_9, L_10, L_11, L_12, L_13, L_14, L_15, L_16, L_17, L_18, L_19, L_20, L_30, L_31, L_32, L_35, L_37, L_39, L_40, L_43, L_48, L_57, L_59, L_60, L_97, L_99, L_100, L_120, L_122, L_127, L_160, L_200, L_255, L_999, L_1000, L_100000, L_1000000, L_24, L_33, L_34, L_36, L_38, L_69, L_70, L_72, L_214, L_215, L_288, L_174, L_175, L_206, LL_0, LL_1, LL_2, LL_3, LL_5, LL_7, LL_9, LL_10, LL_11, LL_12, LL_19, LL_20, LL_30, LL_39, LL_48, LL_57, LL_60, LL_97, LL_99, LL_122, LL_127, LL_999, rd_1, rd_2, rd_3, rd_4, rd_5, rd_6, rd_7, rd_8, rd_9, rd_s3, rd_s4, rd_s5, rd_s6, rd_s7, rd_s8, rd_s9, hT.r]
theorem lett8_e (hT : Tp rd M n c) {s : Nat} (hs : s ≤ n) (rp : Nat → Int32) (td br bp he tk va : Int32) : whO (mX8_step_l84) FU (mdS M rp td br bp (nI s) he tk va) = some (mdS M rp td br bp (nI (scn (inB n c 97 122) 200 s)) he tk va) := by
  have hn := hT.le
  obtain ⟨f1, f2, f3, f4⟩ := st_f (c := c) (lo := 97) (hi := 122) hs hn
  refine whO_for (fun d => mdS M rp td br bp (nI (s + d)) he tk va) (scn (inB n c 97 122) 200 s - s) _ rfl ?_ ?_ (by omega)
  · intro d hd
    have g0 := f4 (s + d) (by omega) (by omega)
    obtain ⟨g1, g2, g3⟩ := inB_t.mp g0
    unfold mX8_step_l84
    simp (disch := omega) only [↓reduceIte, obs, esc_il, esc_ir, leT, leF, ltT, ltF, eqT, eqF, nleT, nleF, nltT, nltF, neqT, neqF, nI_add, pk_mul, ald_nI, ast_nI, irm_nI, idv_nI, zbT, zbF, in_T, in_F1, in_F2, nI_l, sI_1, sI_2, sA_1, sA_2, subK, add0, sub0, or0, lN_add, lN_mul, L_0, L_1, L_2, L_3, L_4, L_5, L_6, L_7, L_8, L_9, L_10, L_11, L_12, L_13, L_14, L_15, L_16, L_17, L_18, L_19, L_20, L_30, L_31, L_32, L_35, L_37, L_39, L_40, L_43, L_48, L_57, L_59, L_60, L_97, L_99, L_100, L_120, L_122, L_127, L_160, L_200, L_255, L_999, L_1000, L_100000, L_1000000, L_24, L_33, L_34, L_36, L_38, L_69, L_70, L_72, L_214, L_215, L_288, L_174, L_175, L_206, LL_0, LL_1, LL_2, LL_3, LL_5, LL_7, LL_9, LL_10, LL_11, LL_12, LL_19, LL_20, LL_30, LL_39, LL_48, LL_57, LL_60, LL_97, LL_99, LL_122, LL_127, LL_999, md_0, md_1, md_t, md_12, md_13, md_2, md_4, md_6, md_7, md_8, md_9, md_10, md_11, md_s, md_s2, md_s6, md_s7, md_s8, md_s9, md_s10, md_s11, byte8 hT, in8 hT.ch, g0, bN, Nat.add_assoc]
  · rw [show s + (scn (inB n c 97 122) 200 s - s) = scn (inB n c 97 122) 200 s by omega]
    unfold mX8_step_l84
    simp (disch := omega) only [↓reduceIte, obs, esc_il, esc_ir, leT, leF, ltT, ltF, eqT, eqF, nleT, nleF, nltT, nltF, neqT, neqF, nI_add, pk_mul, ald_nI, ast_nI, irm_nI, idv_nI, zbT, zbF, in_T, in_F1, in_F2, nI_l, sI_1, sI_2, sA_1, sA_2, subK, add0, sub0, or0, lN_add, lN_mul, L_0, L_1, L_2, L_3, L_4, L_5, L_6, L_7, L_8, L_9, L_10, L_11, L_12, L_13, L_14, L_15, L_16, L_17, L_18, L_19, L_20, L_30, L_31, L_32, L_35, L_37, L_39, L_40, L_43, L_48, L_57, L_59, L_60, L_97, L_99, L_100, L_120, L_122, L_127, L_160, L_200, L_255, L_999, L_1000, L_100000, L_1000000, L_24, L_33, L_34, L_36, L_38, L_69, L_70, L_72, L_214, L_215, L_288, L_174, L_175, L_206, LL_0, LL_1, LL_2, LL_3, LL_5, LL_7, LL_9, LL_10, LL_11, LL_12, LL_19, LL_20, LL_30, LL_39, LL_48, LL_57, LL_60, LL_97, LL_99, LL_122, LL_127, LL_999, md_0, md_1, md_t, md_12, md_13, md_2, md_4, md_6, md_7, md_8, md_9, md_10, md_11, md_s, md_s2, md_s6, md_s7, md_s8, md_s9, md_s10, md_s11, byte8 hT, in8 hT.ch, f3, bN, Bool.false_eq_true]
theorem figu7_e (hT : Tp rd M n c) {s : Nat} (hs : s ≤ n) (fa fp tk st lt : Int32) : whO (mX5_takeFigures_l5) FU (rdS rd fa fp tk st (nI s) (nI 0) lt) = some (rdS rd fa fp tk st (nI (scn (inB n c 48 57) 200 s)) (nz c s (scn (inB n c 48 57) 200 s - s)) lt) := by
  have hn := hT.le
  obtain ⟨f1, f2, f3, f4⟩ := st_f (c := c) (lo := 48) (hi := 57) hs hn
  refine whO_for (fun d => rdS rd fa fp tk st (nI (s + d)) (nz c s d) lt) (scn (inB n c 48 57) 200 s - s) _ rfl ?_ ?_ (by omega)
  · intro d hd
    have g0 := f4 (s + d) (by omega) (by omega)
    obtain ⟨g1, g2, g3⟩ := inB_t.mp g0
    have hfi := figu7 hT.ch (s + d)
    rw [bt_y g1] at hfi
    unfold mX5_takeFigures_l5
    simp (disch := omega) only [↓reduceIte, obs, esc_il, esc_ir, leT, leF, ltT, ltF, eqT, eqF, nleT, nleF, nltT, nltF, neqT, neqF, nI_add, pk_mul, ald_nI, ast_nI, irm_nI, idv_nI, zbT, zbF, in_T, in_F1, in_F2, nI_l, sI_1, sI_2, sA_1, sA_2, add0, sub0, or0, lN_add, lN_mul, L_0, L_1, L_2, L_3, L_4, L_5, L_6, L_7, L_8, L_9, L_10, L_11, L_12, L_13, L_14, L_15, L_16, L_17, L_18, L_19, L_20, L_30, L_31, L_32, L_35, L_37, L_39, L_40, L_43, L_48, L_57, L_59, L_60, L_97, L_99, L_100, L_120, L_122, L_127, L_160, L_200, L_255, L_999, L_1000, L_100000, L_1000000, L_24, L_33, L_34, L_36, L_38, L_69, L_70, L_72, L_214, L_215, L_288, L_174, L_175, L_206, LL_0, LL_1, LL_2, LL_3, LL_5, LL_7, LL_9, LL_10, LL_11, LL_12, LL_19, LL_20, LL_30, LL_39, LL_48, LL_57, LL_60, LL_97, LL_99, LL_122, LL_127, LL_999, rd_1, rd_2, rd_3, rd_4, rd_5, rd_6, rd_7, rd_8, rd_9, rd_s3, rd_s4, rd_s5, rd_s6, rd_s7, rd_s8, rd_s9, hT.r, byte7 hT, hfi, g0, bN, bt_y g1, nz, Nat.add_assoc]
  · rw [show s + (scn (inB n c 48 57) 200 s - s) = scn (inB n c 48 57) 200 s by omega]
    unfold mX5_takeFigures_l5
    by_cases h : scn (inB n c 48 57) 200 s < n
    · simp (disch := omega) only [↓reduceIte, obs, esc_il, esc_ir, leT, leF, ltT, ltF, eqT, eqF, nleT, nleF, nltT, nltF, neqT, neqF, nI_add, pk_mul, ald_nI, ast_nI, irm_nI, idv_nI, zbT, zbF, in_T, in_F1, in_F2, nI_l, sI_1, sI_2, sA_1, sA_2, add0, sub0, or0, lN_add, lN_mul, L_0, L_1, L_2, L_3, L_4, L_5, L_6, L_7, L_8, L_9, L_10, L_11, L_12, L_13, L_14, L_15, L_16, L_17, L_18, L_19, L_20, L_30, L_31, L_32, L_35, L_37, L_39, L_40, L_43, L_48, L_57, L_59, L_60, L_97, L_99, L_100, L_120, L_122, L_127, L_160, L_200, L_255, L_999, L_1000, L_100000, L_1000000, L_24, L_33, L_34, L_36, L_38, L_69, L_70, L_72, L_214, L_215, L_288, L_174, L_175, L_206, LL_0, LL_1, LL_2, LL_3, LL_5, LL_7, LL_9, LL_10, LL_11, LL_12, LL_19, LL_20, LL_30, LL_39, LL_48, LL_57, LL_60, LL_97, LL_99, LL_122, LL_127, LL_999, rd_1, rd_2, rd_3, rd_4, rd_5, rd_6, rd_7, rd_8, rd_9, rd_s3, rd_s4, rd_s5, rd_s6, rd_s7, rd_s8, rd_s9, hT.r, byte7 hT, figu7 hT.ch, f3, bN, Bool.false_eq_true]
    · simp (disch := omega) only [↓reduceIte, obs, esc_il, esc_ir, leT, leF, ltT, ltF, eqT, eqF, nleT, nleF, nltT, nltF, neqT, neqF, nI_add, pk_mul, ald_nI, ast_nI, irm_nI, idv_nI, zbT, zbF, in_T, in_F1, in_F2, nI_l, sI_1, sI_2, sA_1, sA_2, add0, sub0, or0, lN_add, lN_mul, L_0, L_1, L_2, L_3, L_4, L_5, L_6, L_7, L_8, L_9, L_10, L_11, L_12, L_13, L_14, L_15, L_16, L_17, L_18, L_19, L_20, L_30, L_31, L_32, L_35, L_37, L_39, L_40, L_43, L_48, L_57, L_59, L_60, L_97, L_99, L_100, L_120, L_122, L_127, L_160, L_200, L_255, L_999, L_1000, L_100000, L_1000000, L_24, L_33, L_34, L_36, L_38, L_69, L_70, L_72, L_214, L_215, L_288, L_174, L_175, L_206, LL_0, LL_1, LL_2, LL_3, LL_5, LL_7, LL_9, LL_10, LL_11, LL_12, LL_19, LL_20, LL_30, LL_39, LL_48, LL_57, LL_60, LL_97, LL_99, LL_122, LL_127, LL_999, rd_1, rd_2, rd_3, rd_4, rd_5, rd_6, rd_7, rd_8, rd_9, rd_s3, rd_s4, rd_s5, rd_s6, rd_s7, rd_s8, rd_s9, hT.r]
theorem figu8_e (hT : Tp rd M n c) {s : Nat} (hs : s ≤ n) (rp : Nat → Int32) (td br bp tk : Int32) : whO (mX8_step_l140) FU (mdS M rp td br bp (nI s) (nI s) tk (nI 0)) = some (mdS M rp td br bp (nI (scn (inB n c 48 57) 200 s)) (nI s) tk (nI (vz c s (scn (inB n c 48 57) 200 s - s)))) := by
  have hn := hT.le
  obtain ⟨f1, f2, f3, f4⟩ := st_f (c := c) (lo := 48) (hi := 57) hs hn
  refine whO_for (fun d => mdS M rp td br bp (nI (s + d)) (nI s) tk (nI (vz c s d))) (scn (inB n c 48 57) 200 s - s) _ rfl ?_ ?_ (by omega)
  · intro d hd
    have g0 := f4 (s + d) (by omega) (by omega)
    obtain ⟨g1, g2, g3⟩ := inB_t.mp g0
    unfold mX8_step_l140
    by_cases h2 : d < 2
    · have e : vz c s (d + 1) = 10 * vz c s d + c (s + d) - 48 := if_pos h2
      simp (disch := omega) only [↓reduceIte, obs, esc_il, esc_ir, leT, leF, ltT, ltF, eqT, eqF, nleT, nleF, nltT, nltF, neqT, neqF, nI_add, pk_mul, ald_nI, ast_nI, irm_nI, idv_nI, zbT, zbF, in_T, in_F1, in_F2, nI_l, sI_1, sI_2, sA_1, sA_2, subK, add0, sub0, or0, lN_add, lN_mul, L_0, L_1, L_2, L_3, L_4, L_5, L_6, L_7, L_8, L_9, L_10, L_11, L_12, L_13, L_14, L_15, L_16, L_17, L_18, L_19, L_20, L_30, L_31, L_32, L_35, L_37, L_39, L_40, L_43, L_48, L_57, L_59, L_60, L_97, L_99, L_100, L_120, L_122, L_127, L_160, L_200, L_255, L_999, L_1000, L_100000, L_1000000, L_24, L_33, L_34, L_36, L_38, L_69, L_70, L_72, L_214, L_215, L_288, L_174, L_175, L_206, LL_0, LL_1, LL_2, LL_3, LL_5, LL_7, LL_9, LL_10, LL_11, LL_12, LL_19, LL_20, LL_30, LL_39, LL_48, LL_57, LL_60, LL_97, LL_99, LL_122, LL_127, LL_999, md_0, md_1, md_t, md_12, md_13, md_2, md_4, md_6, md_7, md_8, md_9, md_10, md_11, md_s, md_s2, md_s6, md_s7, md_s8, md_s9, md_s10, md_s11, byte8 hT, in8 hT.ch, g0, bN, bt_y g1, e, Nat.add_sub_cancel_left, Nat.add_assoc]
    · have e : vz c s (d + 1) = vz c s d := if_neg h2
      simp (disch := omega) only [↓reduceIte, obs, esc_il, esc_ir, leT, leF, ltT, ltF, eqT, eqF, nleT, nleF, nltT, nltF, neqT, neqF, nI_add, pk_mul, ald_nI, ast_nI, irm_nI, idv_nI, zbT, zbF, in_T, in_F1, in_F2, nI_l, sI_1, sI_2, sA_1, sA_2, subK, add0, sub0, or0, lN_add, lN_mul, L_0, L_1, L_2, L_3, L_4, L_5, L_6, L_7, L_8, L_9, L_10, L_11, L_12, L_13, L_14, L_15, L_16, L_17, L_18, L_19, L_20, L_30, L_31, L_32, L_35, L_37, L_39, L_40, L_43, L_48, L_57, L_59, L_60, L_97, L_99, L_100, L_120, L_122, L_127, L_160, L_200, L_255, L_999, L_1000, L_100000, L_1000000, L_24, L_33, L_34, L_36, L_38, L_69, L_70, L_72, L_214, L_215, L_288, L_174, L_175, L_206, LL_0, LL_1, LL_2, LL_3, LL_5, LL_7, LL_9, LL_10, LL_11, LL_12, LL_19, LL_20, LL_30, LL_39, LL_48, LL_57, LL_60, LL_97, LL_99, LL_122, LL_127, LL_999, md_0, md_1, md_t, md_12, md_13, md_2, md_4, md_6, md_7, md_8, md_9, md_10, md_11, md_s, md_s2, md_s6, md_s7, md_s8, md_s9, md_s10, md_s11, byte8 hT, in8 hT.ch, g0, bN, bt_y g1, e, Nat.add_sub_cancel_left, Nat.add_assoc]
  · rw [show s + (scn (inB n c 48 57) 200 s - s) = scn (inB n c 48 57) 200 s by omega]
    unfold mX8_step_l140
    simp (disch := omega) only [↓reduceIte, obs, esc_il, esc_ir, leT, leF, ltT, ltF, eqT, eqF, nleT, nleF, nltT, nltF, neqT, neqF, nI_add, pk_mul, ald_nI, ast_nI, irm_nI, idv_nI, zbT, zbF, in_T, in_F1, in_F2, nI_l, sI_1, sI_2, sA_1, sA_2, subK, add0, sub0, or0, lN_add, lN_mul, L_0, L_1, L_2, L_3, L_4, L_5, L_6, L_7, L_8, L_9, L_10, L_11, L_12, L_13, L_14, L_15, L_16, L_17, L_18, L_19, L_20, L_30, L_31, L_32, L_35, L_37, L_39, L_40, L_43, L_48, L_57, L_59, L_60, L_97, L_99, L_100, L_120, L_122, L_127, L_160, L_200, L_255, L_999, L_1000, L_100000, L_1000000, L_24, L_33, L_34, L_36, L_38, L_69, L_70, L_72, L_214, L_215, L_288, L_174, L_175, L_206, LL_0, LL_1, LL_2, LL_3, LL_5, LL_7, LL_9, LL_10, LL_11, LL_12, LL_19, LL_20, LL_30, LL_39, LL_48, LL_57, LL_60, LL_97, LL_99, LL_122, LL_127, LL_999, md_0, md_1, md_t, md_12, md_13, md_2, md_4, md_6, md_7, md_8, md_9, md_10, md_11, md_s, md_s2, md_s6, md_s7, md_s8, md_s9, md_s10, md_s11, byte8 hT, in8 hT.ch, f3, bN, Bool.false_eq_true]
theorem nz_vz {s d : Nat} (hd : d ≤ 2) (h : ∀ k, k < d → 48 ≤ c (s + k) ∧ c (s + k) ≤ 57) : nz c s d = nI (vz c s d) := by
  rcases (show d = 0 ∨ d = 1 ∨ d = 2 by omega) with rfl | rfl | rfl
  · rfl
  · have h0 := h 0 (by decide)
    rw [Nat.add_zero] at h0
    simp (disch := omega) only [nz, vz, ↓reduceIte, nltT, nI_add, pk_mul, subK, Nat.zero_mul, Nat.mul_zero, Nat.zero_add, Nat.add_zero]
  · have h0 := h 0 (by decide)
    have h1 := h 1 (by decide)
    rw [Nat.add_zero] at h0
    simp (disch := omega) only [nz, vz, ↓reduceIte, nltT, nI_add, pk_mul, subK, Nat.zero_mul, Nat.mul_zero, Nat.zero_add, Nat.add_zero, Nat.mul_comm 10]
/-- the four forms of a token -/
theorem lx_0 {p : Nat} (h : ¬ lxS n c p < n) : lxE n c p = lxS n c p ∧ lxT n c p = 0 := ⟨if_neg h, if_neg h⟩
theorem lx_1 {p : Nat} (h : lxS n c p < n) (h1 : inB n c 97 122 (lxS n c p) = true) : lxE n c p = scn (inB n c 97 122) 200 (lxS n c p) ∧ lxT n c p = 1 := by
  unfold lxE lxT
  rw [if_pos h, if_pos h, if_pos h1, if_pos h1]
  exact ⟨rfl, rfl⟩
theorem lx_2 {p : Nat} (h : lxS n c p < n) (h1 : inB n c 97 122 (lxS n c p) = false) (h2 : inB n c 48 57 (lxS n c p) = true) : lxE n c p = scn (inB n c 48 57) 200 (lxS n c p) ∧ lxT n c p = if lxE n c p - lxS n c p ≤ 2 then 2 else 4 := by
  refine ⟨?_, ?_⟩
  · unfold lxE
    rw [if_pos h, h1, if_neg (by decide), if_pos h2]
  · show (if lxS n c p < n then _ else 0) = _
    rw [if_pos h, h1, if_neg (by decide), if_pos h2]
theorem lx_3 {p : Nat} (h : lxS n c p < n) (h1 : inB n c 97 122 (lxS n c p) = false) (h2 : inB n c 48 57 (lxS n c p) = false) : lxE n c p = lxS n c p + 1 ∧ lxT n c p = if c (lxS n c p) = 59 then 3 else 4 := by
  refine ⟨?_, ?_⟩
  · unfold lxE
    rw [if_pos h, h1, if_neg (by decide), h2, if_neg (by decide)]
  · show (if lxS n c p < n then _ else 0) = _
    rw [if_pos h, h1, if_neg (by decide), h2, if_neg (by decide)]
theorem lxE_f (hn : n ≤ 160) {p : Nat} (hp : p ≤ n) : lxS n c p ≤ lxE n c p ∧ lxE n c p ≤ n ∧ (lxT n c p ≠ 0 → lxS n c p < lxE n c p) ∧ lxT n c p ≤ 4 ∧ (lxT n c p ≠ 0 → lxS n c p < n) := by
  obtain ⟨f1, f2, f3, f4⟩ := lxS_f (c := c) hp hn
  by_cases h : lxS n c p < n
  · cases h1 : inB n c 97 122 (lxS n c p)
    · cases h2 : inB n c 48 57 (lxS n c p)
      · obtain ⟨e1, e2⟩ := lx_3 h h1 h2
        rw [e1, e2]
        split <;> omega
      · obtain ⟨e1, e2⟩ := lx_2 h h1 h2
        obtain ⟨g1, g2, g3, g4⟩ := st_f (c := c) (lo := 48) (hi := 57) (Nat.le_of_lt h) hn
        have hlt : lxS n c p < scn (inB n c 48 57) 200 (lxS n c p) := by
          rcases Nat.eq_or_lt_of_le g1 with e | e
          · rw [← e] at g3; exact absurd (h2.symm.trans g3) (by decide)
          · exact e
        rw [e2, e1]
        split <;> omega
    · obtain ⟨e1, e2⟩ := lx_1 h h1
      obtain ⟨g1, g2, g3, g4⟩ := st_f (c := c) (lo := 97) (hi := 122) (Nat.le_of_lt h) hn
      have hlt : lxS n c p < scn (inB n c 97 122) 200 (lxS n c p) := by
        rcases Nat.eq_or_lt_of_le g1 with e | e
        · rw [← e] at g3; exact absurd (h1.symm.trans g3) (by decide)
        · exact e
      rw [e1, e2]
      omega
  · obtain ⟨e1, e2⟩ := lx_0 h
    rw [e1, e2]
    omega
theorem token7 (hT : Tp rd M n c) {p : Nat} (hp : p ≤ n) (fa fp tk st nu lt : Int32) : ∃ nu', mX5_nextToken (rdS rd fa fp tk st (nI p) nu lt) = some (rdS rd fa fp (nI (lxT n c p)) (nI (lxS n c p)) (nI (lxE n c p)) nu' lt) ∧ (lxT n c p = 2 → nu' = nI (lxV n c p)) := by
  have hn := hT.le
  obtain ⟨f1, f2, f3, f4⟩ := lxS_f (c := c) hp hn
  have hsk := fun tk sp nu => skip7 hT hp fa fp tk sp nu lt
  unfold mX5_nextToken
  by_cases h : lxS n c p < n
  · cases h1 : inB n c 97 122 (lxS n c p)
    · cases h2 : inB n c 48 57 (lxS n c p)
      · obtain ⟨e1, e2⟩ := lx_3 h h1 h2
        rw [e1, e2]
        refine ⟨nu, ?_, fun z => ?_⟩
        · have hcs := hT.ch _ h
          have hli := lett7 hT.ch (lxS n c p)
          have hfi := figu7 hT.ch (lxS n c p)
          rw [bt_y h] at hli hfi
          by_cases h59 : c (lxS n c p) = 59
          · simp (disch := omega) only [↓reduceIte, obs, esc_il, esc_ir, leT, leF, ltT, ltF, eqT, eqF, nleT, nleF, nltT, nltF, neqT, neqF, nI_add, pk_mul, ald_nI, ast_nI, irm_nI, idv_nI, zbT, zbF, in_T, in_F1, in_F2, nI_l, sI_1, sI_2, sA_1, sA_2, subK, add0, sub0, or0, lN_add, lN_mul, L_0, L_1, L_2, L_3, L_4, L_5, L_6, L_7, L_8, L_9, L_10, L_11, L_12, L_13, L_14, L_15, L_16, L_17, L_18, L_19, L_20, L_30, L_31, L_32, L_35, L_37, L_39, L_40, L_43, L_48, L_57, L_59, L_60, L_97, L_99, L_100, L_120, L_122, L_127, L_160, L_200, L_255, L_999, L_1000, L_100000, L_1000000, L_24, L_33, L_34, L_36, L_38, L_69, L_70, L_72, L_214, L_215, L_288, L_174, L_175, L_206, LL_0, LL_1, LL_2, LL_3, LL_5, LL_7, LL_9, LL_10, LL_11, LL_12, LL_19, LL_20, LL_30, LL_39, LL_48, LL_57, LL_60, LL_97, LL_99, LL_122, LL_127, LL_999, rd_1, rd_2, rd_3, rd_4, rd_5, rd_6, rd_7, rd_8, rd_9, rd_s3, rd_s4, rd_s5, rd_s6, rd_s7, rd_s8, rd_s9, hT.r, hsk, byte7 hT, hli, hfi, h1, h2, bN, Bool.false_eq_true, bt_y h]
          · simp (disch := omega) only [↓reduceIte, obs, esc_il, esc_ir, leT, leF, ltT, ltF, eqT, eqF, nleT, nleF, nltT, nltF, neqT, neqF, nI_add, pk_mul, ald_nI, ast_nI, irm_nI, idv_nI, zbT, zbF, in_T, in_F1, in_F2, nI_l, sI_1, sI_2, sA_1, sA_2, subK, add0, sub0, or0, lN_add, lN_mul, L_0, L_1, L_2, L_3, L_4, L_5, L_6, L_7, L_8, L_9, L_10, L_11, L_12, L_13, L_14, L_15, L_16, L_17, L_18, L_19, L_20, L_30, L_31, L_32, L_35, L_37, L_39, L_40, L_43, L_48, L_57, L_59, L_60, L_97, L_99, L_100, L_120, L_122, L_127, L_160, L_200, L_255, L_999, L_1000, L_100000, L_1000000, L_24, L_33, L_34, L_36, L_38, L_69, L_70, L_72, L_214, L_215, L_288, L_174, L_175, L_206, LL_0, LL_1, LL_2, LL_3, LL_5, LL_7, LL_9, LL_10, LL_11, LL_12, LL_19, LL_20, LL_30, LL_39, LL_48, LL_57, LL_60, LL_97, LL_99, LL_122, LL_127, LL_999, rd_1, rd_2, rd_3, rd_4, rd_5, rd_6, rd_7, rd_8, rd_9, rd_s3, rd_s4, rd_s5, rd_s6, rd_s7, rd_s8, rd_s9, hT.r, hsk, byte7 hT, hli, hfi, h1, h2, bN, Bool.false_eq_true, bt_y h]
        · split at z <;> omega
      · obtain ⟨e1, e2⟩ := lx_2 h h1 h2
        obtain ⟨g1, g2, g3, g4⟩ := st_f (c := c) (lo := 48) (hi := 57) (Nat.le_of_lt h) hn
        have hfg := fun tk st => figu7_e hT (Nat.le_of_lt h) fa fp tk st lt
        refine ⟨nz c (lxS n c p) (lxE n c p - lxS n c p), ?_, fun z => ?_⟩
        · rw [e2, e1]
          unfold mX5_takeFigures
          by_cases hw : scn (inB n c 48 57) 200 (lxS n c p) - lxS n c p ≤ 2
          · simp (disch := omega) only [↓reduceIte, obs, esc_il, esc_ir, leT, leF, ltT, ltF, eqT, eqF, nleT, nleF, nltT, nltF, neqT, neqF, nI_add, pk_mul, ald_nI, ast_nI, irm_nI, idv_nI, zbT, zbF, in_T, in_F1, in_F2, nI_l, sI_1, sI_2, sA_1, sA_2, subK, add0, sub0, or0, lN_add, lN_mul, L_0, L_1, L_2, L_3, L_4, L_5, L_6, L_7, L_8, L_9, L_10, L_11, L_12, L_13, L_14, L_15, L_16, L_17, L_18, L_19, L_20, L_30, L_31, L_32, L_35, L_37, L_39, L_40, L_43, L_48, L_57, L_59, L_60, L_97, L_99, L_100, L_120, L_122, L_127, L_160, L_200, L_255, L_999, L_1000, L_100000, L_1000000, L_24, L_33, L_34, L_36, L_38, L_69, L_70, L_72, L_214, L_215, L_288, L_174, L_175, L_206, LL_0, LL_1, LL_2, LL_3, LL_5, LL_7, LL_9, LL_10, LL_11, LL_12, LL_19, LL_20, LL_30, LL_39, LL_48, LL_57, LL_60, LL_97, LL_99, LL_122, LL_127, LL_999, rd_1, rd_2, rd_3, rd_4, rd_5, rd_6, rd_7, rd_8, rd_9, rd_s3, rd_s4, rd_s5, rd_s6, rd_s7, rd_s8, rd_s9, hT.r, hsk, byte7 hT, lett7 hT.ch, figu7 hT.ch, h1, h2, bN, Bool.false_eq_true, hfg]
          · simp (disch := omega) only [↓reduceIte, obs, esc_il, esc_ir, leT, leF, ltT, ltF, eqT, eqF, nleT, nleF, nltT, nltF, neqT, neqF, nI_add, pk_mul, ald_nI, ast_nI, irm_nI, idv_nI, zbT, zbF, in_T, in_F1, in_F2, nI_l, sI_1, sI_2, sA_1, sA_2, subK, add0, sub0, or0, lN_add, lN_mul, L_0, L_1, L_2, L_3, L_4, L_5, L_6, L_7, L_8, L_9, L_10, L_11, L_12, L_13, L_14, L_15, L_16, L_17, L_18, L_19, L_20, L_30, L_31, L_32, L_35, L_37, L_39, L_40, L_43, L_48, L_57, L_59, L_60, L_97, L_99, L_100, L_120, L_122, L_127, L_160, L_200, L_255, L_999, L_1000, L_100000, L_1000000, L_24, L_33, L_34, L_36, L_38, L_69, L_70, L_72, L_214, L_215, L_288, L_174, L_175, L_206, LL_0, LL_1, LL_2, LL_3, LL_5, LL_7, LL_9, LL_10, LL_11, LL_12, LL_19, LL_20, LL_30, LL_39, LL_48, LL_57, LL_60, LL_97, LL_99, LL_122, LL_127, LL_999, rd_1, rd_2, rd_3, rd_4, rd_5, rd_6, rd_7, rd_8, rd_9, rd_s3, rd_s4, rd_s5, rd_s6, rd_s7, rd_s8, rd_s9, hT.r, hsk, byte7 hT, lett7 hT.ch, figu7 hT.ch, h1, h2, bN, Bool.false_eq_true, hfg]
        · rw [e2] at z
          have hw : lxE n c p - lxS n c p ≤ 2 := by
            split at z
            · assumption
            · omega
          exact nz_vz hw (fun k hk => by
            have := inB_t.mp (g4 (lxS n c p + k) (by omega) (by omega))
            omega)
    · obtain ⟨e1, e2⟩ := lx_1 h h1
      have hlt := fun tk st nu => lett7_e hT (Nat.le_of_lt h) fa fp tk st nu lt
      rw [e1, e2]
      refine ⟨nu, ?_, fun z => absurd z (by decide)⟩
      unfold mX5_takeLetters
      simp (disch := omega) only [↓reduceIte, obs, esc_il, esc_ir, leT, leF, ltT, ltF, eqT, eqF, nleT, nleF, nltT, nltF, neqT, neqF, nI_add, pk_mul, ald_nI, ast_nI, irm_nI, idv_nI, zbT, zbF, in_T, in_F1, in_F2, nI_l, sI_1, sI_2, sA_1, sA_2, subK, add0, sub0, or0, lN_add, lN_mul, L_0, L_1, L_2, L_3, L_4, L_5, L_6, L_7, L_8, L_9, L_10, L_11, L_12, L_13, L_14, L_15, L_16, L_17, L_18, L_19, L_20, L_30, L_31, L_32, L_35, L_37, L_39, L_40, L_43, L_48, L_57, L_59, L_60, L_97, L_99, L_100, L_120, L_122, L_127, L_160, L_200, L_255, L_999, L_1000, L_100000, L_1000000, L_24, L_33, L_34, L_36, L_38, L_69, L_70, L_72, L_214, L_215, L_288, L_174, L_175, L_206, LL_0, LL_1, LL_2, LL_3, LL_5, LL_7, LL_9, LL_10, LL_11, LL_12, LL_19, LL_20, LL_30, LL_39, LL_48, LL_57, LL_60, LL_97, LL_99, LL_122, LL_127, LL_999, rd_1, rd_2, rd_3, rd_4, rd_5, rd_6, rd_7, rd_8, rd_9, rd_s3, rd_s4, rd_s5, rd_s6, rd_s7, rd_s8, rd_s9, hT.r, hsk, byte7 hT, lett7 hT.ch, h1, bN, hlt]
  · obtain ⟨e1, e2⟩ := lx_0 h
    rw [e1, e2]
    refine ⟨nu, ?_, fun z => absurd z (by decide)⟩
    simp (disch := omega) only [↓reduceIte, obs, esc_il, esc_ir, leT, leF, ltT, ltF, eqT, eqF, nleT, nleF, nltT, nltF, neqT, neqF, nI_add, pk_mul, ald_nI, ast_nI, irm_nI, idv_nI, zbT, zbF, in_T, in_F1, in_F2, nI_l, sI_1, sI_2, sA_1, sA_2, subK, add0, sub0, or0, lN_add, lN_mul, L_0, L_1, L_2, L_3, L_4, L_5, L_6, L_7, L_8, L_9, L_10, L_11, L_12, L_13, L_14, L_15, L_16, L_17, L_18, L_19, L_20, L_30, L_31, L_32, L_35, L_37, L_39, L_40, L_43, L_48, L_57, L_59, L_60, L_97, L_99, L_100, L_120, L_122, L_127, L_160, L_200, L_255, L_999, L_1000, L_100000, L_1000000, L_24, L_33, L_34, L_36, L_38, L_69, L_70, L_72, L_214, L_215, L_288, L_174, L_175, L_206, LL_0, LL_1, LL_2, LL_3, LL_5, LL_7, LL_9, LL_10, LL_11, LL_12, LL_19, LL_20, LL_30, LL_39, LL_48, LL_57, LL_60, LL_97, LL_99, LL_122, LL_127, LL_999, rd_1, rd_2, rd_3, rd_4, rd_5, rd_6, rd_7, rd_8, rd_9, rd_s3, rd_s4, rd_s5, rd_s6, rd_s7, rd_s8, rd_s9, hT.r, hsk]
/-- the reference, once it has taken the token from p on -/
def ST (M : GS) (n : Nat) (c : Nat → Nat) (rp : Nat → Int32) (td : Int32) (p : Nat) (G : GS) : Prop := (lxT n c p = 4 ∧ ∃ tk va, G = mdS M rp td (nI 1) (nI (lxS n c p)) (nI (lxE n c p)) (nI (lxS n c p)) tk va) ∨ (lxT n c p ≠ 4 ∧ ∃ bp, G = mdS M rp td (nI 0) bp (nI (lxE n c p)) (nI (lxS n c p)) (nI (lxT n c p)) (nI (if lxT n c p = 2 then lxV n c p else 0)))
theorem token8 (hT : Tp rd M n c) {p : Nat} (hp : p ≤ n) (rp : Nat → Int32) (td bp he tk va : Int32) : ∃ G, mX8_step (mdS M rp td (nI 0) bp (nI p) he tk va) = some G ∧ ST M n c rp td p G := by
  have hn := hT.le
  obtain ⟨f1, f2, f3, f4⟩ := lxS_f (c := c) hp hn
  have hsk := fun br he tk va => skip8 hT hp rp td br bp he tk va
  unfold mX8_step
  by_cases h : lxS n c p < n
  · have hm4 : ¬ bt n c (lxS n c p) = -nI 4 := fun z => (btM hT.ch _).mp z h
    cases h1 : inB n c 97 122 (lxS n c p)
    · cases h2 : inB n c 48 57 (lxS n c p)
      · obtain ⟨e1, e2⟩ := lx_3 h h1 h2
        have hcs := hT.ch _ h
        by_cases h59 : c (lxS n c p) = 59
        · have e59 : bt n c (lxS n c p) = nI 59 := by rw [bt_y h, h59]
          rw [if_pos h59] at e2
          refine ⟨mdS M rp td (nI 0) bp (nI (lxE n c p)) (nI (lxS n c p)) (nI (lxT n c p)) (nI (if lxT n c p = 2 then lxV n c p else 0)), ?_, Or.inr ⟨by rw [e2]; decide, bp, rfl⟩⟩
          rw [show (if lxT n c p = 2 then lxV n c p else 0) = 0 from if_neg (by rw [e2]; decide), e2, e1]
          simp (disch := omega) only [↓reduceIte, obs, esc_il, esc_ir, leT, leF, ltT, ltF, eqT, eqF, nleT, nleF, nltT, nltF, neqT, neqF, nI_add, pk_mul, ald_nI, ast_nI, irm_nI, idv_nI, zbT, zbF, in_T, in_F1, in_F2, nI_l, sI_1, sI_2, sA_1, sA_2, subK, add0, sub0, or0, lN_add, lN_mul, L_0, L_1, L_2, L_3, L_4, L_5, L_6, L_7, L_8, L_9, L_10, L_11, L_12, L_13, L_14, L_15, L_16, L_17, L_18, L_19, L_20, L_30, L_31, L_32, L_35, L_37, L_39, L_40, L_43, L_48, L_57, L_59, L_60, L_97, L_99, L_100, L_120, L_122, L_127, L_160, L_200, L_255, L_999, L_1000, L_100000, L_1000000, L_24, L_33, L_34, L_36, L_38, L_69, L_70, L_72, L_214, L_215, L_288, L_174, L_175, L_206, LL_0, LL_1, LL_2, LL_3, LL_5, LL_7, LL_9, LL_10, LL_11, LL_12, LL_19, LL_20, LL_30, LL_39, LL_48, LL_57, LL_60, LL_97, LL_99, LL_122, LL_127, LL_999, md_0, md_1, md_t, md_12, md_13, md_2, md_4, md_6, md_7, md_8, md_9, md_10, md_11, md_s, md_s2, md_s6, md_s7, md_s8, md_s9, md_s10, md_s11, hsk, byte8 hT, hm4, in8 hT.ch, h1, h2, bN, Bool.false_eq_true, e59, m4N]
        · have e59 : ¬ bt n c (lxS n c p) = nI 59 := by rw [btE hT.ch _ (by decide)]; omega
          rw [if_neg h59] at e2
          refine ⟨mdS M rp td (nI 1) (nI (lxS n c p)) (nI (lxE n c p)) (nI (lxS n c p)) (nI 3) (nI 0), ?_, Or.inl ⟨e2, _, _, rfl⟩⟩
          rw [e1]
          unfold mX8_fails
          simp (disch := omega) only [↓reduceIte, obs, esc_il, esc_ir, leT, leF, ltT, ltF, eqT, eqF, nleT, nleF, nltT, nltF, neqT, neqF, nI_add, pk_mul, ald_nI, ast_nI, irm_nI, idv_nI, zbT, zbF, in_T, in_F1, in_F2, nI_l, sI_1, sI_2, sA_1, sA_2, subK, add0, sub0, or0, lN_add, lN_mul, L_0, L_1, L_2, L_3, L_4, L_5, L_6, L_7, L_8, L_9, L_10, L_11, L_12, L_13, L_14, L_15, L_16, L_17, L_18, L_19, L_20, L_30, L_31, L_32, L_35, L_37, L_39, L_40, L_43, L_48, L_57, L_59, L_60, L_97, L_99, L_100, L_120, L_122, L_127, L_160, L_200, L_255, L_999, L_1000, L_100000, L_1000000, L_24, L_33, L_34, L_36, L_38, L_69, L_70, L_72, L_214, L_215, L_288, L_174, L_175, L_206, LL_0, LL_1, LL_2, LL_3, LL_5, LL_7, LL_9, LL_10, LL_11, LL_12, LL_19, LL_20, LL_30, LL_39, LL_48, LL_57, LL_60, LL_97, LL_99, LL_122, LL_127, LL_999, md_0, md_1, md_t, md_12, md_13, md_2, md_4, md_6, md_7, md_8, md_9, md_10, md_11, md_s, md_s2, md_s6, md_s7, md_s8, md_s9, md_s10, md_s11, hsk, byte8 hT, hm4, in8 hT.ch, h1, h2, bN, Bool.false_eq_true, e59]
      · obtain ⟨e1, e2⟩ := lx_2 h h1 h2
        obtain ⟨g1, g2, g3, g4⟩ := st_f (c := c) (lo := 48) (hi := 57) (Nat.le_of_lt h) hn
        have hfg := fun tk => figu8_e hT (Nat.le_of_lt h) rp td (nI 0) bp tk
        by_cases hw : lxE n c p - lxS n c p ≤ 2
        · rw [if_pos hw] at e2
          refine ⟨mdS M rp td (nI 0) bp (nI (lxE n c p)) (nI (lxS n c p)) (nI (lxT n c p)) (nI (if lxT n c p = 2 then lxV n c p else 0)), ?_, Or.inr ⟨by rw [e2]; decide, bp, rfl⟩⟩
          rw [e2, if_pos rfl]
          unfold lxV
          rw [e1] at hw ⊢
          simp (disch := omega) only [↓reduceIte, obs, esc_il, esc_ir, leT, leF, ltT, ltF, eqT, eqF, nleT, nleF, nltT, nltF, neqT, neqF, nI_add, pk_mul, ald_nI, ast_nI, irm_nI, idv_nI, zbT, zbF, in_T, in_F1, in_F2, nI_l, sI_1, sI_2, sA_1, sA_2, subK, add0, sub0, or0, lN_add, lN_mul, L_0, L_1, L_2, L_3, L_4, L_5, L_6, L_7, L_8, L_9, L_10, L_11, L_12, L_13, L_14, L_15, L_16, L_17, L_18, L_19, L_20, L_30, L_31, L_32, L_35, L_37, L_39, L_40, L_43, L_48, L_57, L_59, L_60, L_97, L_99, L_100, L_120, L_122, L_127, L_160, L_200, L_255, L_999, L_1000, L_100000, L_1000000, L_24, L_33, L_34, L_36, L_38, L_69, L_70, L_72, L_214, L_215, L_288, L_174, L_175, L_206, LL_0, LL_1, LL_2, LL_3, LL_5, LL_7, LL_9, LL_10, LL_11, LL_12, LL_19, LL_20, LL_30, LL_39, LL_48, LL_57, LL_60, LL_97, LL_99, LL_122, LL_127, LL_999, md_0, md_1, md_t, md_12, md_13, md_2, md_4, md_6, md_7, md_8, md_9, md_10, md_11, md_s, md_s2, md_s6, md_s7, md_s8, md_s9, md_s10, md_s11, hsk, byte8 hT, hm4, in8 hT.ch, h1, h2, bN, Bool.false_eq_true, hfg]
        · rw [if_neg hw] at e2
          refine ⟨mdS M rp td (nI 1) (nI (lxS n c p)) (nI (lxE n c p)) (nI (lxS n c p)) (nI 2) (nI (vz c (lxS n c p) (lxE n c p - lxS n c p))), ?_, Or.inl ⟨e2, _, _, rfl⟩⟩
          rw [e1] at hw ⊢
          unfold mX8_fails
          simp (disch := omega) only [↓reduceIte, obs, esc_il, esc_ir, leT, leF, ltT, ltF, eqT, eqF, nleT, nleF, nltT, nltF, neqT, neqF, nI_add, pk_mul, ald_nI, ast_nI, irm_nI, idv_nI, zbT, zbF, in_T, in_F1, in_F2, nI_l, sI_1, sI_2, sA_1, sA_2, subK, add0, sub0, or0, lN_add, lN_mul, L_0, L_1, L_2, L_3, L_4, L_5, L_6, L_7, L_8, L_9, L_10, L_11, L_12, L_13, L_14, L_15, L_16, L_17, L_18, L_19, L_20, L_30, L_31, L_32, L_35, L_37, L_39, L_40, L_43, L_48, L_57, L_59, L_60, L_97, L_99, L_100, L_120, L_122, L_127, L_160, L_200, L_255, L_999, L_1000, L_100000, L_1000000, L_24, L_33, L_34, L_36, L_38, L_69, L_70, L_72, L_214, L_215, L_288, L_174, L_175, L_206, LL_0, LL_1, LL_2, LL_3, LL_5, LL_7, LL_9, LL_10, LL_11, LL_12, LL_19, LL_20, LL_30, LL_39, LL_48, LL_57, LL_60, LL_97, LL_99, LL_122, LL_127, LL_999, md_0, md_1, md_t, md_12, md_13, md_2, md_4, md_6, md_7, md_8, md_9, md_10, md_11, md_s, md_s2, md_s6, md_s7, md_s8, md_s9, md_s10, md_s11, hsk, byte8 hT, hm4, in8 hT.ch, h1, h2, bN, Bool.false_eq_true, hfg]
    · obtain ⟨e1, e2⟩ := lx_1 h h1
      have hlt := fun tk va he => lett8_e hT (Nat.le_of_lt h) rp td (nI 0) bp he tk va
      refine ⟨mdS M rp td (nI 0) bp (nI (lxE n c p)) (nI (lxS n c p)) (nI (lxT n c p)) (nI (if lxT n c p = 2 then lxV n c p else 0)), ?_, Or.inr ⟨by rw [e2]; decide, bp, rfl⟩⟩
      rw [show (if lxT n c p = 2 then lxV n c p else 0) = 0 from if_neg (by rw [e2]; decide), e2, e1]
      simp (disch := omega) only [↓reduceIte, obs, esc_il, esc_ir, leT, leF, ltT, ltF, eqT, eqF, nleT, nleF, nltT, nltF, neqT, neqF, nI_add, pk_mul, ald_nI, ast_nI, irm_nI, idv_nI, zbT, zbF, in_T, in_F1, in_F2, nI_l, sI_1, sI_2, sA_1, sA_2, subK, add0, sub0, or0, lN_add, lN_mul, L_0, L_1, L_2, L_3, L_4, L_5, L_6, L_7, L_8, L_9, L_10, L_11, L_12, L_13, L_14, L_15, L_16, L_17, L_18, L_19, L_20, L_30, L_31, L_32, L_35, L_37, L_39, L_40, L_43, L_48, L_57, L_59, L_60, L_97, L_99, L_100, L_120, L_122, L_127, L_160, L_200, L_255, L_999, L_1000, L_100000, L_1000000, L_24, L_33, L_34, L_36, L_38, L_69, L_70, L_72, L_214, L_215, L_288, L_174, L_175, L_206, LL_0, LL_1, LL_2, LL_3, LL_5, LL_7, LL_9, LL_10, LL_11, LL_12, LL_19, LL_20, LL_30, LL_39, LL_48, LL_57, LL_60, LL_97, LL_99, LL_122, LL_127, LL_999, md_0, md_1, md_t, md_12, md_13, md_2, md_4, md_6, md_7, md_8, md_9, md_10, md_11, md_s, md_s2, md_s6, md_s7, md_s8, md_s9, md_s10, md_s11, hsk, byte8 hT, hm4, in8 hT.ch, h1, bN, hlt]
  · have hm4 : bt n c (lxS n c p) = -nI 4 := (btM hT.ch _).mpr h
    obtain ⟨e1, e2⟩ := lx_0 h
    refine ⟨mdS M rp td (nI 0) bp (nI (lxE n c p)) (nI (lxS n c p)) (nI (lxT n c p)) (nI (if lxT n c p = 2 then lxV n c p else 0)), ?_, Or.inr ⟨by rw [e2]; decide, bp, rfl⟩⟩
    rw [show (if lxT n c p = 2 then lxV n c p else 0) = 0 from if_neg (by rw [e2]; decide), e2, e1]
    simp (disch := omega) only [↓reduceIte, obs, esc_il, esc_ir, leT, leF, ltT, ltF, eqT, eqF, nleT, nleF, nltT, nltF, neqT, neqF, nI_add, pk_mul, ald_nI, ast_nI, irm_nI, idv_nI, zbT, zbF, in_T, in_F1, in_F2, nI_l, sI_1, sI_2, sA_1, sA_2, subK, add0, sub0, or0, lN_add, lN_mul, L_0, L_1, L_2, L_3, L_4, L_5, L_6, L_7, L_8, L_9, L_10, L_11, L_12, L_13, L_14, L_15, L_16, L_17, L_18, L_19, L_20, L_30, L_31, L_32, L_35, L_37, L_39, L_40, L_43, L_48, L_57, L_59, L_60, L_97, L_99, L_100, L_120, L_122, L_127, L_160, L_200, L_255, L_999, L_1000, L_100000, L_1000000, L_24, L_33, L_34, L_36, L_38, L_69, L_70, L_72, L_214, L_215, L_288, L_174, L_175, L_206, LL_0, LL_1, LL_2, LL_3, LL_5, LL_7, LL_9, LL_10, LL_11, LL_12, LL_19, LL_20, LL_30, LL_39, LL_48, LL_57, LL_60, LL_97, LL_99, LL_122, LL_127, LL_999, md_0, md_1, md_t, md_12, md_13, md_2, md_4, md_6, md_7, md_8, md_9, md_10, md_11, md_s, md_s2, md_s6, md_s7, md_s8, md_s9, md_s10, md_s11, hsk, byte8 hT, hm4]
end
