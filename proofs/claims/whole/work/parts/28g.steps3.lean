/-! tape, memory, images, sheets, counts -/
theorem Rel.mk2 {F F' : FS} {M M' : GS} (hR : Rel F M) (hh : HP (F'.1 0) (M'.1 0) 0) (hI0 : RelI F' M' 0) (hI1 : RelI F' M' 1) (hT : RelT F' M') (hF : (F'.1 4).2 3 = M'.2 5) (hS : RelS F' M') (h0 : RelR F' M' 0) (h1 : RelR F' M' 1) (h2 : RelR F' M' 2) (h3 : RelR F' M' 3) (hN : F'.2.1 2 = M'.2 23) (hc : M'.1 12 = M.1 12) (hl : M'.1 13 = M.1 13) : Rel F' M' := by
  refine ⟨hh, fun k hk => ?_, hT, hF, hS, fun k hk => ?_, hN, hc.trans hR.2.2.2.2.2.2.2.1, hl.trans hR.2.2.2.2.2.2.2.2⟩
  · rcases (show k = 0 ∨ k = 1 by omega) with rfl | rfl
    · exact hI0
    · exact hI1
  · rcases (show k = 0 ∨ k = 1 ∨ k = 2 ∨ k = 3 by omega) with rfl | rfl | rfl | rfl
    · exact h0
    · exact h1
    · exact h2
    · exact h3
theorem Rel.I {F : FS} {M : GS} (hR : Rel F M) (k : Nat) (hk : k < 2) : RelI F M k := hR.2.1 k hk
theorem Rel.T {F : FS} {M : GS} (hR : Rel F M) : RelT F M := hR.2.2.1
theorem Rel.F {F : FS} {M : GS} (hR : Rel F M) : (F.1 4).2 3 = M.2 5 := hR.2.2.2.1
theorem Rel.S {F : FS} {M : GS} (hR : Rel F M) : RelS F M := hR.2.2.2.2.1
theorem Rel.R {F : FS} {M : GS} (hR : Rel F M) (k : Nat) (hk : k < 4) : RelR F M k := hR.2.2.2.2.2.1 k hk
theorem Rel.N {F : FS} {M : GS} (hR : Rel F M) : F.2.1 2 = M.2 23 := hR.2.2.2.2.2.2.1
theorem b8 : ∀ c : Nat, c < 128 → (nI c).toInt8.toInt32 = nI c := by decide +kernel
theorem narc (c : Nat) (h : c < 128) : vp_nar .byte (nI c) = nI c := by
  rw [← b8 c h, pk_vb]
theorem st_feed {F : FS} {M : GS} (hR : Rel F M) (n : Int32) : ∃ (o : Int32 × GS) (o' : Int32 × GS), mX7_feed (F.1 4) n = some o ∧ mX8_feed M n = some o' ∧ o.1 = o'.1 ∧ Rel ((va_up F.1 4 o.2), F.2.1, F.2.2) o'.2 := by
  obtain ⟨t, ht, e1, e2, e3⟩ := hR.T
  unfold mX7_feed mX8_feed mX5_append
  rcases cs2 n with h | ⟨c, hc, rfl⟩
  · simp (disch := omega) only [↓reduceIte, obs, esc_il, esc_ir, leT, leF, ltT, ltF, eqT, eqF, nleT, nleF, nltT, nltF, neqT, neqF, nI_add, pk_mul, ald_nI, ast_nI, irm_nI, idv_nI, zbT, zbF, in_T, in_F1, in_F2, nI_l, sI_1, sI_2, sA_1, sA_2, subK, add0, sub0, or0, lN_add, lN_mul, L_0, L_1, L_2, L_3, L_4, L_5, L_6, L_7, L_8, L_9, L_10, L_11, L_12, L_13, L_14, L_15, L_16, L_17, L_18, L_19, L_20, L_30, L_31, L_32, L_35, L_37, L_39, L_40, L_43, L_48, L_57, L_59, L_60, L_97, L_99, L_100, L_120, L_122, L_127, L_160, L_200, L_255, L_999, L_1000, L_100000, L_1000000, LL_0, LL_1, LL_2, LL_3, LL_5, LL_9, LL_10, LL_11, LL_12, LL_19, LL_20, LL_30, LL_39, LL_60, LL_99, LL_127, LL_999, ngLt h, ngLe h, ngGe h, ngGt h, ngEq h, ngEq' h, in_ng h, zb_ng h]
    exact ⟨_, _, rfl, rfl, rfl, hR.same 4⟩
  by_cases hc2 : c < 128
  · by_cases hl : t < 160
    · simp (disch := omega) only [↓reduceIte, obs, esc_il, esc_ir, leT, leF, ltT, ltF, eqT, eqF, nleT, nleF, nltT, nltF, neqT, neqF, nI_add, pk_mul, ald_nI, ast_nI, irm_nI, idv_nI, zbT, zbF, in_T, in_F1, in_F2, nI_l, sI_1, sI_2, sA_1, sA_2, subK, add0, sub0, or0, lN_add, lN_mul, L_0, L_1, L_2, L_3, L_4, L_5, L_6, L_7, L_8, L_9, L_10, L_11, L_12, L_13, L_14, L_15, L_16, L_17, L_18, L_19, L_20, L_30, L_31, L_32, L_35, L_37, L_39, L_40, L_43, L_48, L_57, L_59, L_60, L_97, L_99, L_100, L_120, L_122, L_127, L_160, L_200, L_255, L_999, L_1000, L_100000, L_1000000, LL_0, LL_1, LL_2, LL_3, LL_5, LL_9, LL_10, LL_11, LL_12, LL_19, LL_20, LL_30, LL_39, LL_60, LL_99, LL_127, LL_999, e1, e2, narc, b8]
      refine ⟨_, _, rfl, rfl, rfl, hR.mk2 hR.1 (hR.I 0 (by decide)) (hR.I 1 (by decide)) ?_ hR.F hR.S (hR.R 0 (by decide)) (hR.R 1 (by decide)) (hR.R 2 (by decide)) (hR.R 3 (by decide)) hR.N rfl rfl⟩
      refine ⟨t + 1, by omega, rfl, rfl, fun j hj => ?_⟩
      show ∃ c0, c0 < 128 ∧ upd ((F.1 4).1 1) t (nI c) j = nI c0 ∧ upd (M.1 3) t (nI c) j = nI c0
      by_cases e : j = t
      · exact ⟨c, hc2, by rw [upd_e, if_pos e], by rw [upd_e, if_pos e]⟩
      · obtain ⟨c0, f1, f2, f3⟩ := e3 j (by omega)
        exact ⟨c0, f1, by rw [upd_e, if_neg e, f2], by rw [upd_e, if_neg e, f3]⟩
    · simp (disch := omega) only [↓reduceIte, obs, esc_il, esc_ir, leT, leF, ltT, ltF, eqT, eqF, nleT, nleF, nltT, nltF, neqT, neqF, nI_add, pk_mul, ald_nI, ast_nI, irm_nI, idv_nI, zbT, zbF, in_T, in_F1, in_F2, nI_l, sI_1, sI_2, sA_1, sA_2, subK, add0, sub0, or0, lN_add, lN_mul, L_0, L_1, L_2, L_3, L_4, L_5, L_6, L_7, L_8, L_9, L_10, L_11, L_12, L_13, L_14, L_15, L_16, L_17, L_18, L_19, L_20, L_30, L_31, L_32, L_35, L_37, L_39, L_40, L_43, L_48, L_57, L_59, L_60, L_97, L_99, L_100, L_120, L_122, L_127, L_160, L_200, L_255, L_999, L_1000, L_100000, L_1000000, LL_0, LL_1, LL_2, LL_3, LL_5, LL_9, LL_10, LL_11, LL_12, LL_19, LL_20, LL_30, LL_39, LL_60, LL_99, LL_127, LL_999, e1, e2]
      exact ⟨_, _, rfl, rfl, rfl, hR.same 4⟩
  · simp (disch := omega) only [↓reduceIte, obs, esc_il, esc_ir, leT, leF, ltT, ltF, eqT, eqF, nleT, nleF, nltT, nltF, neqT, neqF, nI_add, pk_mul, ald_nI, ast_nI, irm_nI, idv_nI, zbT, zbF, in_T, in_F1, in_F2, nI_l, sI_1, sI_2, sA_1, sA_2, subK, add0, sub0, or0, lN_add, lN_mul, L_0, L_1, L_2, L_3, L_4, L_5, L_6, L_7, L_8, L_9, L_10, L_11, L_12, L_13, L_14, L_15, L_16, L_17, L_18, L_19, L_20, L_30, L_31, L_32, L_35, L_37, L_39, L_40, L_43, L_48, L_57, L_59, L_60, L_97, L_99, L_100, L_120, L_122, L_127, L_160, L_200, L_255, L_999, L_1000, L_100000, L_1000000, LL_0, LL_1, LL_2, LL_3, LL_5, LL_9, LL_10, LL_11, LL_12, LL_19, LL_20, LL_30, LL_39, LL_60, LL_99, LL_127, LL_999]
    exact ⟨_, _, rfl, rfl, rfl, hR.same 4⟩
theorem st_end {F : FS} {M : GS} (hR : Rel F M) (n : Int32) : ∃ (o : Int32 × GS) (o' : Int32 × GS), mX7_end (F.1 4) n = some o ∧ mX8_end M n = some o' ∧ o.1 = o'.1 ∧ Rel ((va_up F.1 4 o.2), F.2.1, F.2.2) o'.2 := by
  obtain ⟨t, ht, e1, e2, e3⟩ := hR.T
  unfold mX7_end mX8_end
  rcases cs2 n with h | ⟨c, hc, rfl⟩
  · simp (disch := omega) only [↓reduceIte, obs, esc_il, esc_ir, leT, leF, ltT, ltF, eqT, eqF, nleT, nleF, nltT, nltF, neqT, neqF, nI_add, pk_mul, ald_nI, ast_nI, irm_nI, idv_nI, zbT, zbF, in_T, in_F1, in_F2, nI_l, sI_1, sI_2, sA_1, sA_2, subK, add0, sub0, or0, lN_add, lN_mul, L_0, L_1, L_2, L_3, L_4, L_5, L_6, L_7, L_8, L_9, L_10, L_11, L_12, L_13, L_14, L_15, L_16, L_17, L_18, L_19, L_20, L_30, L_31, L_32, L_35, L_37, L_39, L_40, L_43, L_48, L_57, L_59, L_60, L_97, L_99, L_100, L_120, L_122, L_127, L_160, L_200, L_255, L_999, L_1000, L_100000, L_1000000, LL_0, LL_1, LL_2, LL_3, LL_5, LL_9, LL_10, LL_11, LL_12, LL_19, LL_20, LL_30, LL_39, LL_60, LL_99, LL_127, LL_999, ngLt h, ngLe h, ngGe h, ngGt h, ngEq h, ngEq' h, in_ng h, zb_ng h]
    exact ⟨_, _, rfl, rfl, rfl, hR.same 4⟩
  by_cases hl : c ≤ t
  · simp (disch := omega) only [↓reduceIte, obs, esc_il, esc_ir, leT, leF, ltT, ltF, eqT, eqF, nleT, nleF, nltT, nltF, neqT, neqF, nI_add, pk_mul, ald_nI, ast_nI, irm_nI, idv_nI, zbT, zbF, in_T, in_F1, in_F2, nI_l, sI_1, sI_2, sA_1, sA_2, subK, add0, sub0, or0, lN_add, lN_mul, L_0, L_1, L_2, L_3, L_4, L_5, L_6, L_7, L_8, L_9, L_10, L_11, L_12, L_13, L_14, L_15, L_16, L_17, L_18, L_19, L_20, L_30, L_31, L_32, L_35, L_37, L_39, L_40, L_43, L_48, L_57, L_59, L_60, L_97, L_99, L_100, L_120, L_122, L_127, L_160, L_200, L_255, L_999, L_1000, L_100000, L_1000000, LL_0, LL_1, LL_2, LL_3, LL_5, LL_9, LL_10, LL_11, LL_12, LL_19, LL_20, LL_30, LL_39, LL_60, LL_99, LL_127, LL_999, e1, e2]
    refine ⟨_, _, rfl, rfl, rfl, hR.mk2 hR.1 (hR.I 0 (by decide)) (hR.I 1 (by decide)) ?_ hR.F hR.S (hR.R 0 (by decide)) (hR.R 1 (by decide)) (hR.R 2 (by decide)) (hR.R 3 (by decide)) hR.N rfl rfl⟩
    exact ⟨c, by omega, rfl, rfl, fun j hj => e3 j (by omega)⟩
  · simp (disch := omega) only [↓reduceIte, obs, esc_il, esc_ir, leT, leF, ltT, ltF, eqT, eqF, nleT, nleF, nltT, nltF, neqT, neqF, nI_add, pk_mul, ald_nI, ast_nI, irm_nI, idv_nI, zbT, zbF, in_T, in_F1, in_F2, nI_l, sI_1, sI_2, sA_1, sA_2, subK, add0, sub0, or0, lN_add, lN_mul, L_0, L_1, L_2, L_3, L_4, L_5, L_6, L_7, L_8, L_9, L_10, L_11, L_12, L_13, L_14, L_15, L_16, L_17, L_18, L_19, L_20, L_30, L_31, L_32, L_35, L_37, L_39, L_40, L_43, L_48, L_57, L_59, L_60, L_97, L_99, L_100, L_120, L_122, L_127, L_160, L_200, L_255, L_999, L_1000, L_100000, L_1000000, LL_0, LL_1, LL_2, LL_3, LL_5, LL_9, LL_10, LL_11, LL_12, LL_19, LL_20, LL_30, LL_39, LL_60, LL_99, LL_127, LL_999, e1, e2]
    exact ⟨_, _, rfl, rfl, rfl, hR.same 4⟩
theorem st_see {F : FS} {M : GS} (hR : Rel F M) (i : Int32) (x : Int32) : ∃ (o : Int32 × GS) (o' : Int32 × GS), mX7_see (F.1 6) i x = some o ∧ mX8_see M i x = some o' ∧ o.1 = o'.1 ∧ Rel ((va_up F.1 6 o.2), F.2.1, F.2.2) o'.2 := by
  obtain ⟨t, ht, e1, e2, e3⟩ := hR.S
  unfold mX7_see mX8_see mX3_add
  rcases cs2 i with h | ⟨c, hc, rfl⟩
  · simp (disch := omega) only [↓reduceIte, obs, esc_il, esc_ir, leT, leF, ltT, ltF, eqT, eqF, nleT, nleF, nltT, nltF, neqT, neqF, nI_add, pk_mul, ald_nI, ast_nI, irm_nI, idv_nI, zbT, zbF, in_T, in_F1, in_F2, nI_l, sI_1, sI_2, sA_1, sA_2, subK, add0, sub0, or0, lN_add, lN_mul, L_0, L_1, L_2, L_3, L_4, L_5, L_6, L_7, L_8, L_9, L_10, L_11, L_12, L_13, L_14, L_15, L_16, L_17, L_18, L_19, L_20, L_30, L_31, L_32, L_35, L_37, L_39, L_40, L_43, L_48, L_57, L_59, L_60, L_97, L_99, L_100, L_120, L_122, L_127, L_160, L_200, L_255, L_999, L_1000, L_100000, L_1000000, LL_0, LL_1, LL_2, LL_3, LL_5, LL_9, LL_10, LL_11, LL_12, LL_19, LL_20, LL_30, LL_39, LL_60, LL_99, LL_127, LL_999, ngLt h, ngLe h, ngGe h, ngGt h, ngEq h, ngEq' h, in_ng h, zb_ng h]
    exact ⟨_, _, rfl, rfl, rfl, hR.same 6⟩
  by_cases hc2 : c < 12
  · rcases cs2 x with h | ⟨v, hx, rfl⟩
    · simp (disch := omega) only [↓reduceIte, obs, esc_il, esc_ir, leT, leF, ltT, ltF, eqT, eqF, nleT, nleF, nltT, nltF, neqT, neqF, nI_add, pk_mul, ald_nI, ast_nI, irm_nI, idv_nI, zbT, zbF, in_T, in_F1, in_F2, nI_l, sI_1, sI_2, sA_1, sA_2, subK, add0, sub0, or0, lN_add, lN_mul, L_0, L_1, L_2, L_3, L_4, L_5, L_6, L_7, L_8, L_9, L_10, L_11, L_12, L_13, L_14, L_15, L_16, L_17, L_18, L_19, L_20, L_30, L_31, L_32, L_35, L_37, L_39, L_40, L_43, L_48, L_57, L_59, L_60, L_97, L_99, L_100, L_120, L_122, L_127, L_160, L_200, L_255, L_999, L_1000, L_100000, L_1000000, LL_0, LL_1, LL_2, LL_3, LL_5, LL_9, LL_10, LL_11, LL_12, LL_19, LL_20, LL_30, LL_39, LL_60, LL_99, LL_127, LL_999, ngLt h, ngLe h, ngGe h, ngGt h, ngEq h, ngEq' h, in_ng h, zb_ng h]
      exact ⟨_, _, rfl, rfl, rfl, hR.same 6⟩
    by_cases hx2 : v < 100
    · by_cases hl : t < 6
      · simp (disch := omega) only [↓reduceIte, obs, esc_il, esc_ir, leT, leF, ltT, ltF, eqT, eqF, nleT, nleF, nltT, nltF, neqT, neqF, nI_add, pk_mul, ald_nI, ast_nI, irm_nI, idv_nI, zbT, zbF, in_T, in_F1, in_F2, nI_l, sI_1, sI_2, sA_1, sA_2, subK, add0, sub0, or0, lN_add, lN_mul, L_0, L_1, L_2, L_3, L_4, L_5, L_6, L_7, L_8, L_9, L_10, L_11, L_12, L_13, L_14, L_15, L_16, L_17, L_18, L_19, L_20, L_30, L_31, L_32, L_35, L_37, L_39, L_40, L_43, L_48, L_57, L_59, L_60, L_97, L_99, L_100, L_120, L_122, L_127, L_160, L_200, L_255, L_999, L_1000, L_100000, L_1000000, LL_0, LL_1, LL_2, LL_3, LL_5, LL_9, LL_10, LL_11, LL_12, LL_19, LL_20, LL_30, LL_39, LL_60, LL_99, LL_127, LL_999, e1, e2, sA_sA]
        refine ⟨_, _, rfl, rfl, rfl, hR.mk2 hR.1 (hR.I 0 (by decide)) (hR.I 1 (by decide)) hR.T hR.F ?_ (hR.R 0 (by decide)) (hR.R 1 (by decide)) (hR.R 2 (by decide)) (hR.R 3 (by decide)) hR.N rfl rfl⟩
        refine ⟨t + 1, by omega, rfl, rfl, fun j hj => ?_⟩
        show ∃ i0 v0, i0 < 12 ∧ v0 < 100 ∧ upd ((F.1 6).1 0) t (nI c) j = nI i0 ∧ upd ((F.1 6).1 1) t (nI v) j = nI v0 ∧ upd (upd (M.1 16) (2 * t) (nI c)) (2 * t + 1) (nI v) (2 * j) = nI i0 ∧ upd (upd (M.1 16) (2 * t) (nI c)) (2 * t + 1) (nI v) (2 * j + 1) = nI v0
        by_cases e : j = t
        · subst e
          exact ⟨c, v, hc2, hx2, by simp (disch := omega) only [upd_e, ↓reduceIte, neqF, neqT], by simp (disch := omega) only [upd_e, ↓reduceIte, neqF, neqT], by simp (disch := omega) only [upd_e, ↓reduceIte, neqF, neqT], by simp (disch := omega) only [upd_e, ↓reduceIte, neqF, neqT]⟩
        · obtain ⟨i0, v0, f1, f2, f3, f4, f5, f6⟩ := e3 j (by omega)
          exact ⟨i0, v0, f1, f2, by simp (disch := omega) only [upd_e, ↓reduceIte, neqF, f3], by simp (disch := omega) only [upd_e, ↓reduceIte, neqF, f4], by simp (disch := omega) only [upd_e, ↓reduceIte, neqF, f5], by simp (disch := omega) only [upd_e, ↓reduceIte, neqF, f6]⟩
      · simp (disch := omega) only [↓reduceIte, obs, esc_il, esc_ir, leT, leF, ltT, ltF, eqT, eqF, nleT, nleF, nltT, nltF, neqT, neqF, nI_add, pk_mul, ald_nI, ast_nI, irm_nI, idv_nI, zbT, zbF, in_T, in_F1, in_F2, nI_l, sI_1, sI_2, sA_1, sA_2, subK, add0, sub0, or0, lN_add, lN_mul, L_0, L_1, L_2, L_3, L_4, L_5, L_6, L_7, L_8, L_9, L_10, L_11, L_12, L_13, L_14, L_15, L_16, L_17, L_18, L_19, L_20, L_30, L_31, L_32, L_35, L_37, L_39, L_40, L_43, L_48, L_57, L_59, L_60, L_97, L_99, L_100, L_120, L_122, L_127, L_160, L_200, L_255, L_999, L_1000, L_100000, L_1000000, LL_0, LL_1, LL_2, LL_3, LL_5, LL_9, LL_10, LL_11, LL_12, LL_19, LL_20, LL_30, LL_39, LL_60, LL_99, LL_127, LL_999, e1, e2]
        exact ⟨_, _, rfl, rfl, rfl, hR.same 6⟩
    · simp (disch := omega) only [↓reduceIte, obs, esc_il, esc_ir, leT, leF, ltT, ltF, eqT, eqF, nleT, nleF, nltT, nltF, neqT, neqF, nI_add, pk_mul, ald_nI, ast_nI, irm_nI, idv_nI, zbT, zbF, in_T, in_F1, in_F2, nI_l, sI_1, sI_2, sA_1, sA_2, subK, add0, sub0, or0, lN_add, lN_mul, L_0, L_1, L_2, L_3, L_4, L_5, L_6, L_7, L_8, L_9, L_10, L_11, L_12, L_13, L_14, L_15, L_16, L_17, L_18, L_19, L_20, L_30, L_31, L_32, L_35, L_37, L_39, L_40, L_43, L_48, L_57, L_59, L_60, L_97, L_99, L_100, L_120, L_122, L_127, L_160, L_200, L_255, L_999, L_1000, L_100000, L_1000000, LL_0, LL_1, LL_2, LL_3, LL_5, LL_9, LL_10, LL_11, LL_12, LL_19, LL_20, LL_30, LL_39, LL_60, LL_99, LL_127, LL_999]
      exact ⟨_, _, rfl, rfl, rfl, hR.same 6⟩
  · simp (disch := omega) only [↓reduceIte, obs, esc_il, esc_ir, leT, leF, ltT, ltF, eqT, eqF, nleT, nleF, nltT, nltF, neqT, neqF, nI_add, pk_mul, ald_nI, ast_nI, irm_nI, idv_nI, zbT, zbF, in_T, in_F1, in_F2, nI_l, sI_1, sI_2, sA_1, sA_2, subK, add0, sub0, or0, lN_add, lN_mul, L_0, L_1, L_2, L_3, L_4, L_5, L_6, L_7, L_8, L_9, L_10, L_11, L_12, L_13, L_14, L_15, L_16, L_17, L_18, L_19, L_20, L_30, L_31, L_32, L_35, L_37, L_39, L_40, L_43, L_48, L_57, L_59, L_60, L_97, L_99, L_100, L_120, L_122, L_127, L_160, L_200, L_255, L_999, L_1000, L_100000, L_1000000, LL_0, LL_1, LL_2, LL_3, LL_5, LL_9, LL_10, LL_11, LL_12, LL_19, LL_20, LL_30, LL_39, LL_60, LL_99, LL_127, LL_999]
    exact ⟨_, _, rfl, rfl, rfl, hR.same 6⟩
theorem st_forget {F : FS} {M : GS} (hR : Rel F M) (n : Int32) : ∃ (o : Int32 × GS) (o' : Int32 × GS), mX7_forget (F.1 6) n = some o ∧ mX8_forget M n = some o' ∧ o.1 = o'.1 ∧ Rel ((va_up F.1 6 o.2), F.2.1, F.2.2) o'.2 := by
  obtain ⟨t, ht, e1, e2, e3⟩ := hR.S
  unfold mX7_forget mX8_forget
  rcases cs2 n with h | ⟨c, hc, rfl⟩
  · simp (disch := omega) only [↓reduceIte, obs, esc_il, esc_ir, leT, leF, ltT, ltF, eqT, eqF, nleT, nleF, nltT, nltF, neqT, neqF, nI_add, pk_mul, ald_nI, ast_nI, irm_nI, idv_nI, zbT, zbF, in_T, in_F1, in_F2, nI_l, sI_1, sI_2, sA_1, sA_2, subK, add0, sub0, or0, lN_add, lN_mul, L_0, L_1, L_2, L_3, L_4, L_5, L_6, L_7, L_8, L_9, L_10, L_11, L_12, L_13, L_14, L_15, L_16, L_17, L_18, L_19, L_20, L_30, L_31, L_32, L_35, L_37, L_39, L_40, L_43, L_48, L_57, L_59, L_60, L_97, L_99, L_100, L_120, L_122, L_127, L_160, L_200, L_255, L_999, L_1000, L_100000, L_1000000, LL_0, LL_1, LL_2, LL_3, LL_5, LL_9, LL_10, LL_11, LL_12, LL_19, LL_20, LL_30, LL_39, LL_60, LL_99, LL_127, LL_999, ngLt h, ngLe h, ngGe h, ngGt h, ngEq h, ngEq' h, in_ng h, zb_ng h]
    exact ⟨_, _, rfl, rfl, rfl, hR.same 6⟩
  by_cases hl : c ≤ t
  · simp (disch := omega) only [↓reduceIte, obs, esc_il, esc_ir, leT, leF, ltT, ltF, eqT, eqF, nleT, nleF, nltT, nltF, neqT, neqF, nI_add, pk_mul, ald_nI, ast_nI, irm_nI, idv_nI, zbT, zbF, in_T, in_F1, in_F2, nI_l, sI_1, sI_2, sA_1, sA_2, subK, add0, sub0, or0, lN_add, lN_mul, L_0, L_1, L_2, L_3, L_4, L_5, L_6, L_7, L_8, L_9, L_10, L_11, L_12, L_13, L_14, L_15, L_16, L_17, L_18, L_19, L_20, L_30, L_31, L_32, L_35, L_37, L_39, L_40, L_43, L_48, L_57, L_59, L_60, L_97, L_99, L_100, L_120, L_122, L_127, L_160, L_200, L_255, L_999, L_1000, L_100000, L_1000000, LL_0, LL_1, LL_2, LL_3, LL_5, LL_9, LL_10, LL_11, LL_12, LL_19, LL_20, LL_30, LL_39, LL_60, LL_99, LL_127, LL_999, e1, e2]
    refine ⟨_, _, rfl, rfl, rfl, hR.mk2 hR.1 (hR.I 0 (by decide)) (hR.I 1 (by decide)) hR.T hR.F ?_ (hR.R 0 (by decide)) (hR.R 1 (by decide)) (hR.R 2 (by decide)) (hR.R 3 (by decide)) hR.N rfl rfl⟩
    exact ⟨c, by omega, rfl, rfl, fun j hj => e3 j (by omega)⟩
  · simp (disch := omega) only [↓reduceIte, obs, esc_il, esc_ir, leT, leF, ltT, ltF, eqT, eqF, nleT, nleF, nltT, nltF, neqT, neqF, nI_add, pk_mul, ald_nI, ast_nI, irm_nI, idv_nI, zbT, zbF, in_T, in_F1, in_F2, nI_l, sI_1, sI_2, sA_1, sA_2, subK, add0, sub0, or0, lN_add, lN_mul, L_0, L_1, L_2, L_3, L_4, L_5, L_6, L_7, L_8, L_9, L_10, L_11, L_12, L_13, L_14, L_15, L_16, L_17, L_18, L_19, L_20, L_30, L_31, L_32, L_35, L_37, L_39, L_40, L_43, L_48, L_57, L_59, L_60, L_97, L_99, L_100, L_120, L_122, L_127, L_160, L_200, L_255, L_999, L_1000, L_100000, L_1000000, LL_0, LL_1, LL_2, LL_3, LL_5, LL_9, LL_10, LL_11, LL_12, LL_19, LL_20, LL_30, LL_39, LL_60, LL_99, LL_127, LL_999, e1, e2]
    exact ⟨_, _, rfl, rfl, rfl, hR.same 6⟩
theorem narb : vp_nar .boolean (1 : Int32) = nI 1 := rfl
theorem PV.agree {f f' : Nat → Int32} {p : Nat} {a : AH} (h : PV f p a) (hi : HI a) (hf : ∀ q, p ≤ q → q < p + 40 → f' q = f q) : PV f' p a := by
  have hb := hi.nb
  refine ⟨fun j hj => ?_, fun j hj => ?_, fun j hj => ?_, fun j hj => ?_, fun j hj => ?_, ?_, ?_, ?_, ?_, ?_, ?_, ?_, ?_⟩
  · rw [hf _ (by omega) (by omega)]; exact h.kd hj
  · rw [hf _ (by omega) (by omega)]; exact h.wm hj
  · rw [hf _ (by omega) (by omega)]; exact h.fd hj
  · rw [hf _ (by omega) (by omega)]; exact h.ln hj
  · rw [hf _ (by omega) (by omega)]; exact h.pr hj
  · rw [hf _ (by omega) (by omega)]; exact h.b
  · rw [hf _ (by omega) (by omega)]; exact h.w
  · rw [hf _ (by omega) (by omega)]; exact h.s
  · rw [hf _ (by omega) (by omega)]; exact h.wd
  · rw [hf _ (by omega) (by omega)]; exact h.re
  · rw [hf _ (by omega) (by omega)]; exact h.u
  · rw [hf _ (by omega) (by omega)]; exact h.y
  · rw [hf _ (by omega) (by omega)]; exact h.r
theorem HP.agree {g : GS} {f f' : Nat → Int32} {p : Nat} (h : HP g f p) (hf : ∀ q, p ≤ q → q < p + 40 → f' q = f q) : HP g f' p := by
  obtain ⟨a, h1, h2, h3, h4⟩ := h
  exact ⟨a, h1, h2.agree h3 hf, h3, h4⟩
theorem sel_n {r : Int32} {N : Nat} (hN : N < 2 ^ 30) (h : r < 0 ∨ N ≤ r.toNatClampNeg) {z : Int64} (hz : z.toInt = (N : Int) - 1) : mX8_in r.toInt64 0 z = some 0 := by
  rw [in_zb r hN hz, zb_n h]
theorem sel_y {r : Int32} {N k : Nat} (hk : k < N) (hN : N < 2 ^ 30) (h : ¬ (r < 0 ∨ N ≤ r.toNatClampNeg)) (hs : ¬ (r < 0 ∨ N ≤ r.toNatClampNeg) → r.toNatClampNeg = k) : r = nI k := by
  have e := hs h
  obtain ⟨m, hm, rfl⟩ := nI_of (fun z => h (Or.inl z))
  rw [nI_clamp hm] at e
  rw [e]
theorem up_id2 {α : Type} (f : Nat → α) (k : Nat) : va_up f k (f k) = f := by
  funext j; rw [up_e]; split
  · rename_i h; rw [h]
  · rfl
theorem sel_ok {r : Int32} {N k : Nat} (hk : k < N) (hN : N < 2 ^ 31) (h : r = nI k) : (r < 0 ∨ N ≤ r.toNatClampNeg) = False := by
  subst h
  exact eq_false (nI_in hk hN)
theorem st_keep_0 {F : FS} {M : GS} (hR : Rel F M) (r : Int32) (hs : ¬ (r < 0 ∨ 2 ≤ r.toNatClampNeg) → r.toNatClampNeg = 0) : ∃ (o : Int32 × Int32 × GS) (o' : Int32 × GS), mX7_keep (F.1 0) (F.2.1 0) (F.1 2) r = some o ∧ mX8_keep M r = some o' ∧ o.1 = o'.1 ∧ Rel ((va_up F.1 2 o.2.2), (va_up F.2.1 0 o.2.1), F.2.2) o'.2 := by
  unfold mX7_keep mX8_keep
  by_cases hr : r < 0 ∨ 2 ≤ r.toNatClampNeg
  · rw [if_pos hr, sel_n (N := 2) (by decide) hr (by decide)]
    refine ⟨_, _, rfl, rfl, rfl, ?_⟩
    show Rel (va_up F.1 2 (F.1 2), va_up F.2.1 0 (F.2.1 0), F.2.2) M
    rw [up_id2, up_id2]; exact hR
  have e := sel_y (by decide) (by decide) hr hs
  subst e
  rw [if_neg hr]
  obtain ⟨⟨a, hv, hp, hi, hy⟩, -⟩ := id hR
  obtain ⟨v, hv1, e1, e2, -⟩ := hR.I 0 (by decide)
  obtain ⟨g', c1, c2⟩ := copy_e (g := F.1 2) hv hi
  obtain ⟨f', d1, d2, d3⟩ := copies_p (g := M) (i := 0) (j := 40 * (0 + 1)) hp hi (by decide) (by decide) (by decide)
  rw [c1]
  have hmul : (40 : Int32) * (nI 0 + 1) = nI (40 * (0 + 1)) := by decide
  rw [hmul, L_0, d1]
  rcases (show v = 0 ∨ v = 1 by omega) with rfl | rfl
  all_goals
    simp (disch := omega) only [↓reduceIte, obs, esc_il, esc_ir, leT, leF, ltT, ltF, eqT, eqF, nleT, nleF, nltT, nltF, neqT, neqF, nI_add, pk_mul, ald_nI, ast_nI, irm_nI, idv_nI, zbT, zbF, in_T, in_F1, in_F2, nI_l, sI_1, sI_2, sA_1, sA_2, subK, add0, sub0, or0, lN_add, lN_mul, L_0, L_1, L_2, L_3, L_4, L_5, L_6, L_7, L_8, L_9, L_10, L_11, L_12, L_13, L_14, L_15, L_16, L_17, L_18, L_19, L_20, L_30, L_31, L_32, L_35, L_37, L_39, L_40, L_43, L_48, L_57, L_59, L_60, L_97, L_99, L_100, L_120, L_122, L_127, L_160, L_200, L_255, L_999, L_1000, L_100000, L_1000000, LL_0, LL_1, LL_2, LL_3, LL_5, LL_9, LL_10, LL_11, LL_12, LL_19, LL_20, LL_30, LL_39, LL_60, LL_99, LL_127, LL_999, e1, e2, narb]
    refine ⟨_, _, rfl, rfl, rfl, hR.mk2 ?_ ?_ ?_ hR.T hR.F hR.S (hR.R 0 (by decide)) (hR.R 1 (by decide)) (hR.R 2 (by decide)) (hR.R 3 (by decide)) hR.N rfl rfl⟩
    · exact hR.1.agree (fun q h1 h2 => d3 q (by omega))
    · exact ⟨1, by decide, rfl, rfl, fun _ => ⟨a, c2, d2, hi, hy⟩⟩
    · obtain ⟨w, w1, w2, w3, w4⟩ := hR.I 1 (by decide); exact ⟨w, w1, w2, w3, fun hw => (w4 hw).agree (fun q h1 h2 => d3 q (by omega))⟩
theorem st_back_0 {F : FS} {M : GS} (hR : Rel F M) (r : Int32) (hs : ¬ (r < 0 ∨ 2 ≤ r.toNatClampNeg) → r.toNatClampNeg = 0) : ∃ (o : Int32 × GS) (o' : Int32 × GS), mX7_back (F.1 0) (F.2.1 0) (F.1 2) r = some o ∧ mX8_back M r = some o' ∧ o.1 = o'.1 ∧ Rel ((va_up F.1 0 o.2), F.2.1, F.2.2) o'.2 := by
  unfold mX7_back mX8_back
  by_cases hr : r < 0 ∨ 2 ≤ r.toNatClampNeg
  · rw [if_pos hr, sel_n (N := 2) (by decide) hr (by decide)]
    exact ⟨_, _, rfl, rfl, rfl, hR.same 0⟩
  have e := sel_y (by decide) (by decide) hr hs
  subst e
  rw [if_neg hr]
  obtain ⟨v, hv1, e1, e2, e3⟩ := hR.I 0 (by decide)
  rcases (show v = 0 ∨ v = 1 by omega) with rfl | rfl
  · simp (disch := omega) only [↓reduceIte, obs, esc_il, esc_ir, leT, leF, ltT, ltF, eqT, eqF, nleT, nleF, nltT, nltF, neqT, neqF, nI_add, pk_mul, ald_nI, ast_nI, irm_nI, idv_nI, zbT, zbF, in_T, in_F1, in_F2, nI_l, sI_1, sI_2, sA_1, sA_2, subK, add0, sub0, or0, lN_add, lN_mul, L_0, L_1, L_2, L_3, L_4, L_5, L_6, L_7, L_8, L_9, L_10, L_11, L_12, L_13, L_14, L_15, L_16, L_17, L_18, L_19, L_20, L_30, L_31, L_32, L_35, L_37, L_39, L_40, L_43, L_48, L_57, L_59, L_60, L_97, L_99, L_100, L_120, L_122, L_127, L_160, L_200, L_255, L_999, L_1000, L_100000, L_1000000, LL_0, LL_1, LL_2, LL_3, LL_5, LL_9, LL_10, LL_11, LL_12, LL_19, LL_20, LL_30, LL_39, LL_60, LL_99, LL_127, LL_999, e1, e2]
    exact ⟨_, _, rfl, rfl, rfl, hR.same 0⟩
  obtain ⟨a, hv, hp, hi, hy⟩ := e3 rfl
  obtain ⟨g', c1, c2⟩ := copy_e (g := F.1 0) hv hi
  obtain ⟨f', d1, d2, d3⟩ := copies_p (g := M) (i := 40 * (0 + 1)) (j := 0) hp hi (by decide) (by decide) (by decide)
  have c1' : mX0_copy (F.1 0) (F.1 2) = some g' := c1
  rw [c1']
  have hmul : (40 : Int32) * (nI 0 + 1) = nI (40 * (0 + 1)) := by decide
  rw [hmul, L_0, d1]
  simp (disch := omega) only [↓reduceIte, obs, esc_il, esc_ir, leT, leF, ltT, ltF, eqT, eqF, nleT, nleF, nltT, nltF, neqT, neqF, nI_add, pk_mul, ald_nI, ast_nI, irm_nI, idv_nI, zbT, zbF, in_T, in_F1, in_F2, nI_l, sI_1, sI_2, sA_1, sA_2, subK, add0, sub0, or0, lN_add, lN_mul, L_0, L_1, L_2, L_3, L_4, L_5, L_6, L_7, L_8, L_9, L_10, L_11, L_12, L_13, L_14, L_15, L_16, L_17, L_18, L_19, L_20, L_30, L_31, L_32, L_35, L_37, L_39, L_40, L_43, L_48, L_57, L_59, L_60, L_97, L_99, L_100, L_120, L_122, L_127, L_160, L_200, L_255, L_999, L_1000, L_100000, L_1000000, LL_0, LL_1, LL_2, LL_3, LL_5, LL_9, LL_10, LL_11, LL_12, LL_19, LL_20, LL_30, LL_39, LL_60, LL_99, LL_127, LL_999, e1, e2, P0.y d2, c2.y]
  exact ⟨_, _, rfl, rfl, rfl, hR.hall ⟨a, c2, d2, hi, hy⟩ (fun q h1 h2 => d3 q (by omega))⟩
theorem st_keep_1 {F : FS} {M : GS} (hR : Rel F M) (r : Int32) (hs : ¬ (r < 0 ∨ 2 ≤ r.toNatClampNeg) → r.toNatClampNeg = 1) : ∃ (o : Int32 × Int32 × GS) (o' : Int32 × GS), mX7_keep (F.1 0) (F.2.1 1) (F.1 3) r = some o ∧ mX8_keep M r = some o' ∧ o.1 = o'.1 ∧ Rel ((va_up F.1 3 o.2.2), (va_up F.2.1 1 o.2.1), F.2.2) o'.2 := by
  unfold mX7_keep mX8_keep
  by_cases hr : r < 0 ∨ 2 ≤ r.toNatClampNeg
  · rw [if_pos hr, sel_n (N := 2) (by decide) hr (by decide)]
    refine ⟨_, _, rfl, rfl, rfl, ?_⟩
    show Rel (va_up F.1 3 (F.1 3), va_up F.2.1 1 (F.2.1 1), F.2.2) M
    rw [up_id2, up_id2]; exact hR
  have e := sel_y (by decide) (by decide) hr hs
  subst e
  rw [if_neg hr]
  obtain ⟨⟨a, hv, hp, hi, hy⟩, -⟩ := id hR
  obtain ⟨v, hv1, e1, e2, -⟩ := hR.I 1 (by decide)
  obtain ⟨g', c1, c2⟩ := copy_e (g := F.1 3) hv hi
  obtain ⟨f', d1, d2, d3⟩ := copies_p (g := M) (i := 0) (j := 40 * (1 + 1)) hp hi (by decide) (by decide) (by decide)
  rw [c1]
  have hmul : (40 : Int32) * (nI 1 + 1) = nI (40 * (1 + 1)) := by decide
  rw [hmul, L_0, d1]
  rcases (show v = 0 ∨ v = 1 by omega) with rfl | rfl
  all_goals
    simp (disch := omega) only [↓reduceIte, obs, esc_il, esc_ir, leT, leF, ltT, ltF, eqT, eqF, nleT, nleF, nltT, nltF, neqT, neqF, nI_add, pk_mul, ald_nI, ast_nI, irm_nI, idv_nI, zbT, zbF, in_T, in_F1, in_F2, nI_l, sI_1, sI_2, sA_1, sA_2, subK, add0, sub0, or0, lN_add, lN_mul, L_0, L_1, L_2, L_3, L_4, L_5, L_6, L_7, L_8, L_9, L_10, L_11, L_12, L_13, L_14, L_15, L_16, L_17, L_18, L_19, L_20, L_30, L_31, L_32, L_35, L_37, L_39, L_40, L_43, L_48, L_57, L_59, L_60, L_97, L_99, L_100, L_120, L_122, L_127, L_160, L_200, L_255, L_999, L_1000, L_100000, L_1000000, LL_0, LL_1, LL_2, LL_3, LL_5, LL_9, LL_10, LL_11, LL_12, LL_19, LL_20, LL_30, LL_39, LL_60, LL_99, LL_127, LL_999, e1, e2, narb]
    refine ⟨_, _, rfl, rfl, rfl, hR.mk2 ?_ ?_ ?_ hR.T hR.F hR.S (hR.R 0 (by decide)) (hR.R 1 (by decide)) (hR.R 2 (by decide)) (hR.R 3 (by decide)) hR.N rfl rfl⟩
    · exact hR.1.agree (fun q h1 h2 => d3 q (by omega))
    · obtain ⟨w, w1, w2, w3, w4⟩ := hR.I 0 (by decide); exact ⟨w, w1, w2, w3, fun hw => (w4 hw).agree (fun q h1 h2 => d3 q (by omega))⟩
    · exact ⟨1, by decide, rfl, rfl, fun _ => ⟨a, c2, d2, hi, hy⟩⟩
theorem st_back_1 {F : FS} {M : GS} (hR : Rel F M) (r : Int32) (hs : ¬ (r < 0 ∨ 2 ≤ r.toNatClampNeg) → r.toNatClampNeg = 1) : ∃ (o : Int32 × GS) (o' : Int32 × GS), mX7_back (F.1 0) (F.2.1 1) (F.1 3) r = some o ∧ mX8_back M r = some o' ∧ o.1 = o'.1 ∧ Rel ((va_up F.1 0 o.2), F.2.1, F.2.2) o'.2 := by
  unfold mX7_back mX8_back
  by_cases hr : r < 0 ∨ 2 ≤ r.toNatClampNeg
  · rw [if_pos hr, sel_n (N := 2) (by decide) hr (by decide)]
    exact ⟨_, _, rfl, rfl, rfl, hR.same 0⟩
  have e := sel_y (by decide) (by decide) hr hs
  subst e
  rw [if_neg hr]
  obtain ⟨v, hv1, e1, e2, e3⟩ := hR.I 1 (by decide)
  rcases (show v = 0 ∨ v = 1 by omega) with rfl | rfl
  · simp (disch := omega) only [↓reduceIte, obs, esc_il, esc_ir, leT, leF, ltT, ltF, eqT, eqF, nleT, nleF, nltT, nltF, neqT, neqF, nI_add, pk_mul, ald_nI, ast_nI, irm_nI, idv_nI, zbT, zbF, in_T, in_F1, in_F2, nI_l, sI_1, sI_2, sA_1, sA_2, subK, add0, sub0, or0, lN_add, lN_mul, L_0, L_1, L_2, L_3, L_4, L_5, L_6, L_7, L_8, L_9, L_10, L_11, L_12, L_13, L_14, L_15, L_16, L_17, L_18, L_19, L_20, L_30, L_31, L_32, L_35, L_37, L_39, L_40, L_43, L_48, L_57, L_59, L_60, L_97, L_99, L_100, L_120, L_122, L_127, L_160, L_200, L_255, L_999, L_1000, L_100000, L_1000000, LL_0, LL_1, LL_2, LL_3, LL_5, LL_9, LL_10, LL_11, LL_12, LL_19, LL_20, LL_30, LL_39, LL_60, LL_99, LL_127, LL_999, e1, e2]
    exact ⟨_, _, rfl, rfl, rfl, hR.same 0⟩
  obtain ⟨a, hv, hp, hi, hy⟩ := e3 rfl
  obtain ⟨g', c1, c2⟩ := copy_e (g := F.1 0) hv hi
  obtain ⟨f', d1, d2, d3⟩ := copies_p (g := M) (i := 40 * (1 + 1)) (j := 0) hp hi (by decide) (by decide) (by decide)
  have c1' : mX0_copy (F.1 0) (F.1 3) = some g' := c1
  rw [c1']
  have hmul : (40 : Int32) * (nI 1 + 1) = nI (40 * (1 + 1)) := by decide
  rw [hmul, L_0, d1]
  simp (disch := omega) only [↓reduceIte, obs, esc_il, esc_ir, leT, leF, ltT, ltF, eqT, eqF, nleT, nleF, nltT, nltF, neqT, neqF, nI_add, pk_mul, ald_nI, ast_nI, irm_nI, idv_nI, zbT, zbF, in_T, in_F1, in_F2, nI_l, sI_1, sI_2, sA_1, sA_2, subK, add0, sub0, or0, lN_add, lN_mul, L_0, L_1, L_2, L_3, L_4, L_5, L_6, L_7, L_8, L_9, L_10, L_11, L_12, L_13, L_14, L_15, L_16, L_17, L_18, L_19, L_20, L_30, L_31, L_32, L_35, L_37, L_39, L_40, L_43, L_48, L_57, L_59, L_60, L_97, L_99, L_100, L_120, L_122, L_127, L_160, L_200, L_255, L_999, L_1000, L_100000, L_1000000, LL_0, LL_1, LL_2, LL_3, LL_5, LL_9, LL_10, LL_11, LL_12, LL_19, LL_20, LL_30, LL_39, LL_60, LL_99, LL_127, LL_999, e1, e2, P0.y d2, c2.y]
  exact ⟨_, _, rfl, rfl, rfl, hR.hall ⟨a, c2, d2, hi, hy⟩ (fun q h1 h2 => d3 q (by omega))⟩
theorem sheetL {M : GS} {k : Nat} (hk : k < 4) : whO (mX8_sheet_l56 (nI k)) FU ((0 : Int32), M) = some (nI 40, sA M 22 (fun q => if 40 * k ≤ q ∧ q < 40 * k + 40 then 0 else M.1 22 q)) := by
  refine whO_for (fun i => (nI i, sA M 22 (fun q => if 40 * k ≤ q ∧ q < 40 * k + i then 0 else M.1 22 q))) 40 _ ?_ ?_ ?_ (by decide)
  · show (_, _) = (_, _)
    rw [show (fun q => if 40 * k ≤ q ∧ q < 40 * k + 0 then 0 else M.1 22 q) = M.1 22 from by funext q; rw [if_neg (by omega)], sA_id]
    rfl
  · intro i h
    unfold mX8_sheet_l56
    simp (disch := omega) only [↓reduceIte, obs, esc_il, esc_ir, leT, leF, ltT, ltF, eqT, eqF, nleT, nleF, nltT, nltF, neqT, neqF, nI_add, pk_mul, ald_nI, ast_nI, irm_nI, idv_nI, zbT, zbF, in_T, in_F1, in_F2, nI_l, sI_1, sI_2, sA_1, sA_2, subK, add0, sub0, or0, lN_add, lN_mul, L_0, L_1, L_2, L_3, L_4, L_5, L_6, L_7, L_8, L_9, L_10, L_11, L_12, L_13, L_14, L_15, L_16, L_17, L_18, L_19, L_20, L_30, L_31, L_32, L_35, L_37, L_39, L_40, L_43, L_48, L_57, L_59, L_60, L_97, L_99, L_100, L_120, L_122, L_127, L_160, L_200, L_255, L_999, L_1000, L_100000, L_1000000, LL_0, LL_1, LL_2, LL_3, LL_5, LL_9, LL_10, LL_11, LL_12, LL_19, LL_20, LL_30, LL_39, LL_60, LL_99, LL_127, LL_999, sA_sA]
    simp only [Option.some.injEq, Sum.inl.injEq, Prod.mk.injEq, true_and]
    congr 1
    funext q
    rw [upd_e]
    by_cases h1 : q = 40 * k + i
    · rw [if_pos h1, if_pos (by omega)]
    · rw [if_neg h1]
      by_cases h2 : 40 * k ≤ q ∧ q < 40 * k + i
      · rw [if_pos h2, if_pos (by omega)]
      · rw [if_neg h2, if_neg (by omega)]
  · unfold mX8_sheet_l56
    simp (disch := omega) only [↓reduceIte, obs, esc_il, esc_ir, leT, leF, ltT, ltF, eqT, eqF, nleT, nleF, nltT, nltF, neqT, neqF, nI_add, pk_mul, ald_nI, ast_nI, irm_nI, idv_nI, zbT, zbF, in_T, in_F1, in_F2, nI_l, sI_1, sI_2, sA_1, sA_2, subK, add0, sub0, or0, lN_add, lN_mul, L_0, L_1, L_2, L_3, L_4, L_5, L_6, L_7, L_8, L_9, L_10, L_11, L_12, L_13, L_14, L_15, L_16, L_17, L_18, L_19, L_20, L_30, L_31, L_32, L_35, L_37, L_39, L_40, L_43, L_48, L_57, L_59, L_60, L_97, L_99, L_100, L_120, L_122, L_127, L_160, L_200, L_255, L_999, L_1000, L_100000, L_1000000, LL_0, LL_1, LL_2, LL_3, LL_5, LL_9, LL_10, LL_11, LL_12, LL_19, LL_20, LL_30, LL_39, LL_60, LL_99, LL_127, LL_999]
theorem toInt_c (x : Int32) : x.toInt = if 2 * x.toBitVec.toNat < 2 ^ 32 then (x.toBitVec.toNat : Int) else (x.toBitVec.toNat : Int) - ((2 ^ 32 : Nat) : Int) := BitVec.toInt_eq_toNat_cond _
theorem sh8 (x : Int32) : ((x <<< ((24 : Int32) &&& 31)) >>> ((24 : Int32) &&& 31)) = x.toInt8.toInt32 := by
  apply Int32.toInt_inj.mp
  rw [pk_shr _ _ 24 (by decide), Int.shiftRight_eq_div_pow, toInt_c, pk_shl _ _ 24 (by decide), Int8.toInt_toInt32, Int32.toInt_toInt8, Int.bmod_def, toInt_c x]
  have hx := x.toBitVec.isLt
  generalize x.toBitVec.toNat = N at *
  split <;> split <;> split <;> omega
theorem sh16 (x : Int32) : ((x <<< ((16 : Int32) &&& 31)) >>> ((16 : Int32) &&& 31)) = x.toInt16.toInt32 := by
  apply Int32.toInt_inj.mp
  rw [pk_shr _ _ 16 (by decide), Int.shiftRight_eq_div_pow, toInt_c, pk_shl _ _ 16 (by decide), Int16.toInt_toInt32, Int32.toInt_toInt16, Int.bmod_def, toInt_c x]
  have hx := x.toBitVec.isLt
  generalize x.toBitVec.toNat = N at *
  split <;> split <;> split <;> omega
theorem RelR.ag {F F' : FS} {M M' : GS} {k : Nat} (h : RelR F M k) (h1 : F'.1 (8 + k) = F.1 (8 + k)) (h2 : M'.1 20 k = M.1 20 k) (h3 : M'.1 21 k = M.1 21 k) (h4 : ∀ q, q < 40 → M'.1 22 (40 * k + q) = M.1 22 (40 * k + q)) : RelR F' M' k := by
  obtain ⟨e1, e2, n, e3, e4, e5, e6⟩ := h
  refine ⟨by rw [h1, h2]; exact e1, by rw [h2]; exact e2, n, e3, by rw [h1]; exact e4, by rw [h3]; exact e5, fun j hj => ?_⟩
  rw [h1, h4 j (by omega)]; exact e6 j hj
theorem Rel.row {F : FS} {M M' : GS} (hR : Rel F M) (k : Nat) (hk : k < 4) (ro : GS) (hM : ∀ s, s < 20 → M'.1 s = M.1 s) (hM2 : M'.2 = M.2) (h20 : ∀ j, j < 4 → j ≠ k → M'.1 20 j = M.1 20 j) (h21 : ∀ j, j < 4 → j ≠ k → M'.1 21 j = M.1 21 j) (h22 : ∀ j q, j < 4 → j ≠ k → q < 40 → M'.1 22 (40 * j + q) = M.1 22 (40 * j + q)) (hr : RelR (va_up F.1 (8 + k) ro, F.2.1, F.2.2) M' k) : Rel (va_up F.1 (8 + k) ro, F.2.1, F.2.2) M' := by
  have e : ∀ j, j ≠ 8 + k → va_up F.1 (8 + k) ro j = F.1 j := fun j hj => by rw [up_e, if_neg hj]
  refine ⟨?_, fun j hj => ?_, ?_, ?_, ?_, fun j hj => ?_, ?_, ?_, ?_⟩
  · show HP (va_up F.1 (8 + k) ro 0) (M'.1 0) 0
    rw [e 0 (by omega), hM 0 (by decide)]; exact hR.1
  · obtain ⟨v, a1, a2, a3, a4⟩ := hR.I j hj
    refine ⟨v, a1, a2, by rw [hM 19 (by decide)]; exact a3, fun hv => ?_⟩
    show HP (va_up F.1 (8 + k) ro (2 + j)) (M'.1 0) _
    rw [e _ (by omega), hM 0 (by decide)]; exact a4 hv
  · obtain ⟨n, a1, a2, a3, a4⟩ := hR.T
    refine ⟨n, a1, ?_, by rw [hM2]; exact a3, fun j hj => ?_⟩
    · show (va_up F.1 (8 + k) ro 4).2 2 = _
      rw [e _ (by omega)]; exact a2
    · show ∃ c, c < 128 ∧ (va_up F.1 (8 + k) ro 4).1 1 j = nI c ∧ M'.1 3 j = nI c
      rw [e _ (by omega), hM 3 (by decide)]; exact a4 j hj
  · show (va_up F.1 (8 + k) ro 4).2 3 = _
    rw [e _ (by omega), hM2]; exact hR.F
  · obtain ⟨n, a1, a2, a3, a4⟩ := hR.S
    refine ⟨n, a1, ?_, by rw [hM2]; exact a3, fun j hj => ?_⟩
    · show (va_up F.1 (8 + k) ro 6).2 2 = _
      rw [e _ (by omega)]; exact a2
    · show ∃ i v, i < 12 ∧ v < 100 ∧ (va_up F.1 (8 + k) ro 6).1 0 j = nI i ∧ (va_up F.1 (8 + k) ro 6).1 1 j = nI v ∧ M'.1 16 (2 * j) = nI i ∧ M'.1 16 (2 * j + 1) = nI v
      rw [e _ (by omega), hM 16 (by decide)]; exact a4 j hj
  · by_cases hjk : j = k
    · subst hjk; exact hr
    · exact (hR.R j hj).ag (e _ (by omega)) (h20 j hj hjk) (h21 j hj hjk) (fun q hq => h22 j q hj hjk hq)
  · rw [hM2]; exact hR.N
  · rw [hM 12 (by decide)]; exact hR.2.2.2.2.2.2.2.1
  · rw [hM 13 (by decide)]; exact hR.2.2.2.2.2.2.2.2
theorem Rel.sameN {F : FS} {M : GS} (hR : Rel F M) (j : Nat) : Rel (va_up F.1 j (F.1 j), F.2.1, F.2.2) M := hR.same j
theorem st_sheet_g {F : FS} {M : GS} (hR : Rel F M) (k : Nat) (hk : k < 4) (r : Int32) (i : Int32) (n : Int32) (hs : ¬ (r < 0 ∨ 4 ≤ r.toNatClampNeg) → r.toNatClampNeg = k) : ∃ (o : Int32 × GS) (o' : Int32 × GS), mX7_sheet (F.1 (8 + k)) r i n = some o ∧ mX8_sheet M r i n = some o' ∧ o.1 = o'.1 ∧ Rel ((va_up F.1 (8 + k) o.2), F.2.1, F.2.2) o'.2 := by
  unfold mX7_sheet mX8_sheet
  by_cases hr : r < 0 ∨ 4 ≤ r.toNatClampNeg
  · rw [if_pos hr, sel_n (N := 4) (by decide) hr (by decide)]
    exact ⟨_, _, rfl, rfl, rfl, hR.same _⟩
  have e := sel_y hk (by decide) hr hs
  subst e
  rw [if_neg hr]
  rcases cs2 i with h | ⟨t, ht, rfl⟩
  · simp (disch := omega) only [↓reduceIte, obs, esc_il, esc_ir, leT, leF, ltT, ltF, eqT, eqF, nleT, nleF, nltT, nltF, neqT, neqF, nI_add, pk_mul, ald_nI, ast_nI, irm_nI, idv_nI, zbT, zbF, in_T, in_F1, in_F2, nI_l, sI_1, sI_2, sA_1, sA_2, subK, add0, sub0, or0, lN_add, lN_mul, L_0, L_1, L_2, L_3, L_4, L_5, L_6, L_7, L_8, L_9, L_10, L_11, L_12, L_13, L_14, L_15, L_16, L_17, L_18, L_19, L_20, L_30, L_31, L_32, L_35, L_37, L_39, L_40, L_43, L_48, L_57, L_59, L_60, L_97, L_99, L_100, L_120, L_122, L_127, L_160, L_200, L_255, L_999, L_1000, L_100000, L_1000000, LL_0, LL_1, LL_2, LL_3, LL_5, LL_9, LL_10, LL_11, LL_12, LL_19, LL_20, LL_30, LL_39, LL_60, LL_99, LL_127, LL_999, ngLt h, ngLe h, ngGe h, ngGt h, ngEq h, ngEq' h, in_ng h, zb_ng h]
    exact ⟨_, _, rfl, rfl, rfl, hR.same _⟩
  by_cases ht2 : t < 3
  · rcases cs2 n with h | ⟨m, hm, rfl⟩
    · simp (disch := omega) only [↓reduceIte, obs, esc_il, esc_ir, leT, leF, ltT, ltF, eqT, eqF, nleT, nleF, nltT, nltF, neqT, neqF, nI_add, pk_mul, ald_nI, ast_nI, irm_nI, idv_nI, zbT, zbF, in_T, in_F1, in_F2, nI_l, sI_1, sI_2, sA_1, sA_2, subK, add0, sub0, or0, lN_add, lN_mul, L_0, L_1, L_2, L_3, L_4, L_5, L_6, L_7, L_8, L_9, L_10, L_11, L_12, L_13, L_14, L_15, L_16, L_17, L_18, L_19, L_20, L_30, L_31, L_32, L_35, L_37, L_39, L_40, L_43, L_48, L_57, L_59, L_60, L_97, L_99, L_100, L_120, L_122, L_127, L_160, L_200, L_255, L_999, L_1000, L_100000, L_1000000, LL_0, LL_1, LL_2, LL_3, LL_5, LL_9, LL_10, LL_11, LL_12, LL_19, LL_20, LL_30, LL_39, LL_60, LL_99, LL_127, LL_999, ngLt h, ngLe h, ngGe h, ngGt h, ngEq h, ngEq' h, in_ng h, zb_ng h]
      exact ⟨_, _, rfl, rfl, rfl, hR.same _⟩
    by_cases hm2 : m ≤ 40
    · unfold mX6_renew
      rw [fill_i _ 40 _ (by decide)]
      have hL := sheetL (M := sA (sA M 20 (upd (M.1 20) k (nI t))) 21 (upd (M.1 21) k (nI m))) hk
      rw [L_0] at hL
      simp (disch := omega) only [↓reduceIte, obs, esc_il, esc_ir, leT, leF, ltT, ltF, eqT, eqF, nleT, nleF, nltT, nltF, neqT, neqF, nI_add, pk_mul, ald_nI, ast_nI, irm_nI, idv_nI, zbT, zbF, in_T, in_F1, in_F2, nI_l, sI_1, sI_2, sA_1, sA_2, subK, add0, sub0, or0, lN_add, lN_mul, L_0, L_1, L_2, L_3, L_4, L_5, L_6, L_7, L_8, L_9, L_10, L_11, L_12, L_13, L_14, L_15, L_16, L_17, L_18, L_19, L_20, L_30, L_31, L_32, L_35, L_37, L_39, L_40, L_43, L_48, L_57, L_59, L_60, L_97, L_99, L_100, L_120, L_122, L_127, L_160, L_200, L_255, L_999, L_1000, L_100000, L_1000000, LL_0, LL_1, LL_2, LL_3, LL_5, LL_9, LL_10, LL_11, LL_12, LL_19, LL_20, LL_30, LL_39, LL_60, LL_99, LL_127, LL_999, hL]
      refine ⟨_, _, rfl, rfl, rfl, hR.row k hk _ ?_ rfl ?_ ?_ ?_ ?_⟩
      · intro s hs
        show (if s = 22 then _ else if s = 21 then _ else if s = 20 then _ else M.1 s) = M.1 s
        rw [if_neg (by omega), if_neg (by omega), if_neg (by omega)]
      · intro j hj hjk
        show upd (M.1 20) k (nI t) j = _
        rw [upd_e, if_neg hjk]
      · intro j hj hjk
        show upd (M.1 21) k (nI m) j = _
        rw [upd_e, if_neg hjk]
      · intro j q hj hjk hq
        show (if 40 * k ≤ 40 * j + q ∧ 40 * j + q < 40 * k + 40 then _ else M.1 22 (40 * j + q)) = _
        rw [if_neg (by omega)]
      · refine ⟨?_, Or.inr ⟨t, by omega, ?_⟩, m, hm2, ?_, ?_, fun j hj => ?_⟩
        · show (va_up F.1 (8 + k) _ (8 + k)).2 1 = upd (M.1 20) k (nI t) k
          rw [up_e, if_pos rfl, upd_e, if_pos rfl]; rfl
        · show upd (M.1 20) k (nI t) k = _
          rw [upd_e, if_pos rfl]
        · show (va_up F.1 (8 + k) _ (8 + k)).2 2 = _
          rw [up_e, if_pos rfl]; rfl
        · show upd (M.1 21) k (nI m) k = _
          rw [upd_e, if_pos rfl]
        · show (va_up F.1 (8 + k) _ (8 + k)).1 0 j = (if 40 * k ≤ 40 * k + j ∧ 40 * k + j < 40 * k + 40 then _ else M.1 22 (40 * k + j))
          rw [up_e, if_pos rfl, if_pos (by omega)]
          show (if j < 40 then _ else _) = _
          rw [if_pos (by omega)]
    · simp (disch := omega) only [↓reduceIte, obs, esc_il, esc_ir, leT, leF, ltT, ltF, eqT, eqF, nleT, nleF, nltT, nltF, neqT, neqF, nI_add, pk_mul, ald_nI, ast_nI, irm_nI, idv_nI, zbT, zbF, in_T, in_F1, in_F2, nI_l, sI_1, sI_2, sA_1, sA_2, subK, add0, sub0, or0, lN_add, lN_mul, L_0, L_1, L_2, L_3, L_4, L_5, L_6, L_7, L_8, L_9, L_10, L_11, L_12, L_13, L_14, L_15, L_16, L_17, L_18, L_19, L_20, L_30, L_31, L_32, L_35, L_37, L_39, L_40, L_43, L_48, L_57, L_59, L_60, L_97, L_99, L_100, L_120, L_122, L_127, L_160, L_200, L_255, L_999, L_1000, L_100000, L_1000000, LL_0, LL_1, LL_2, LL_3, LL_5, LL_9, LL_10, LL_11, LL_12, LL_19, LL_20, LL_30, LL_39, LL_60, LL_99, LL_127, LL_999]
      exact ⟨_, _, rfl, rfl, rfl, hR.same _⟩
  · simp (disch := omega) only [↓reduceIte, obs, esc_il, esc_ir, leT, leF, ltT, ltF, eqT, eqF, nleT, nleF, nltT, nltF, neqT, neqF, nI_add, pk_mul, ald_nI, ast_nI, irm_nI, idv_nI, zbT, zbF, in_T, in_F1, in_F2, nI_l, sI_1, sI_2, sA_1, sA_2, subK, add0, sub0, or0, lN_add, lN_mul, L_0, L_1, L_2, L_3, L_4, L_5, L_6, L_7, L_8, L_9, L_10, L_11, L_12, L_13, L_14, L_15, L_16, L_17, L_18, L_19, L_20, L_30, L_31, L_32, L_35, L_37, L_39, L_40, L_43, L_48, L_57, L_59, L_60, L_97, L_99, L_100, L_120, L_122, L_127, L_160, L_200, L_255, L_999, L_1000, L_100000, L_1000000, LL_0, LL_1, LL_2, LL_3, LL_5, LL_9, LL_10, LL_11, LL_12, LL_19, LL_20, LL_30, LL_39, LL_60, LL_99, LL_127, LL_999]
    exact ⟨_, _, rfl, rfl, rfl, hR.same _⟩
theorem Rel_lay {F : FS} {M : GS} (hR : Rel F M) {k : Nat} (hk : k < 4) {i n : Nat} (hn : n ≤ 40) (hi : i < n) (hs : (F.1 (8 + k)).2 2 = nI n) (v : Int32) : Rel (va_up F.1 (8 + k) (sA (F.1 (8 + k)) 0 (upd ((F.1 (8 + k)).1 0) i v)), F.2.1, F.2.2) (sA M 22 (upd (M.1 22) (40 * k + i) v)) := by
  refine hR.row k hk _ ?_ rfl ?_ ?_ ?_ ?_
  · intro s h
    exact sA_n M _ (by omega)
  · intro j hj hjk; rfl
  · intro j hj hjk; rfl
  · intro j q hj hjk hq
    show upd (M.1 22) (40 * k + i) v (40 * j + q) = _
    rw [upd_e, if_neg (by omega)]
  · obtain ⟨e1, e2, m, e3, e4, e5, e6⟩ := hR.R k hk
    refine ⟨?_, e2, m, e3, ?_, e5, fun j hj => ?_⟩
    · show (va_up F.1 (8 + k) _ (8 + k)).2 1 = _
      rw [up_e, if_pos rfl]; exact e1
    · show (va_up F.1 (8 + k) _ (8 + k)).2 2 = _
      rw [up_e, if_pos rfl]; exact e4
    · show (va_up F.1 (8 + k) _ (8 + k)).1 0 j = upd (M.1 22) (40 * k + i) v (40 * k + j)
      rw [up_e, if_pos rfl]
      show upd ((F.1 (8 + k)).1 0) i v j = _
      rw [upd_e, upd_e]
      by_cases h : j = i
      · rw [if_pos h, if_pos (by omega)]
      · rw [if_neg h, if_neg (by omega)]; exact e6 j hj
theorem m4_ne {t : Nat} (ht : t < 2 ^ 31) : (nI t = (-4 : Int32)) = False := eq_false (by
  intro z
  have z2 := congrArg Int32.toInt z
  rw [nI_toInt ht] at z2
  have : (-4 : Int32).toInt = -4 := by decide
  omega)
theorem in_lay {n : Nat} (hn : n ≤ 40) (i : Int32) : mX8_in i.toInt64 0 (nI n - 1).toInt64 = some (zb i n) := in_zb i (by omega) (by rw [i64, nI_m1 (by omega)])
theorem st_lay_g {F : FS} {M : GS} (hR : Rel F M) (k : Nat) (hk : k < 4) (r : Int32) (i : Int32) (x : Int32) (hs : ¬ (r < 0 ∨ 4 ≤ r.toNatClampNeg) → r.toNatClampNeg = k) : ∃ (o : Int32 × GS) (o' : Int32 × GS), mX7_lay (F.1 (8 + k)) r i x = some o ∧ mX8_lay M r i x = some o' ∧ o.1 = o'.1 ∧ Rel ((va_up F.1 (8 + k) o.2), F.2.1, F.2.2) o'.2 := by
  unfold mX7_lay mX8_lay
  by_cases hr : r < 0 ∨ 4 ≤ r.toNatClampNeg
  · rw [if_pos hr, sel_n (N := 4) (by decide) hr (by decide)]
    exact ⟨_, _, rfl, rfl, rfl, hR.same _⟩
  have e := sel_y hk (by decide) hr hs
  subst e
  rw [if_neg hr]
  obtain ⟨e1, e2, n, e3, e4, e5, e6⟩ := hR.R k hk
  have hin : mX8_in (nI k).toInt64 0 3 = some (nI 1) := by simp (disch := omega) only [↓reduceIte, obs, esc_il, esc_ir, leT, leF, ltT, ltF, eqT, eqF, nleT, nleF, nltT, nltF, neqT, neqF, nI_add, pk_mul, ald_nI, ast_nI, irm_nI, idv_nI, zbT, zbF, in_T, in_F1, in_F2, nI_l, sI_1, sI_2, sA_1, sA_2, subK, add0, sub0, or0, lN_add, lN_mul, L_0, L_1, L_2, L_3, L_4, L_5, L_6, L_7, L_8, L_9, L_10, L_11, L_12, L_13, L_14, L_15, L_16, L_17, L_18, L_19, L_20, L_30, L_31, L_32, L_35, L_37, L_39, L_40, L_43, L_48, L_57, L_59, L_60, L_97, L_99, L_100, L_120, L_122, L_127, L_160, L_200, L_255, L_999, L_1000, L_100000, L_1000000, LL_0, LL_1, LL_2, LL_3, LL_5, LL_9, LL_10, LL_11, LL_12, LL_19, LL_20, LL_30, LL_39, LL_60, LL_99, LL_127, LL_999]
  rw [hin, obs, if_neg (by decide), ald_nI hk (by decide), obs, ald_nI hk (by decide), obs]
  unfold mX6_faultAt mX6_write
  rw [e1, e4, e5, in_lay e3]
  rcases e2 with e2 | ⟨t, ht, e2⟩
  · rw [e2, if_pos rfl, if_pos rfl, obs]
    exact ⟨_, _, rfl, rfl, rfl, hR.same _⟩
  rw [e2]
  simp (disch := omega) only [m4_ne, ↓reduceIte]
  rcases cs2 i with h | ⟨m, hm, rfl⟩
  · simp (disch := omega) only [↓reduceIte, obs, esc_il, esc_ir, leT, leF, ltT, ltF, eqT, eqF, nleT, nleF, nltT, nltF, neqT, neqF, nI_add, pk_mul, ald_nI, ast_nI, irm_nI, idv_nI, zbT, zbF, in_T, in_F1, in_F2, nI_l, sI_1, sI_2, sA_1, sA_2, subK, add0, sub0, or0, lN_add, lN_mul, L_0, L_1, L_2, L_3, L_4, L_5, L_6, L_7, L_8, L_9, L_10, L_11, L_12, L_13, L_14, L_15, L_16, L_17, L_18, L_19, L_20, L_30, L_31, L_32, L_35, L_37, L_39, L_40, L_43, L_48, L_57, L_59, L_60, L_97, L_99, L_100, L_120, L_122, L_127, L_160, L_200, L_255, L_999, L_1000, L_100000, L_1000000, LL_0, LL_1, LL_2, LL_3, LL_5, LL_9, LL_10, LL_11, LL_12, LL_19, LL_20, LL_30, LL_39, LL_60, LL_99, LL_127, LL_999, ngLt h, ngLe h, ngGe h, ngGt h, ngEq h, ngEq' h, in_ng h, zb_ng h]
    exact ⟨_, _, rfl, rfl, rfl, hR.same _⟩
  by_cases hmn : m < n
  · rw [sh8, sh16]
    rcases (show t = 0 ∨ t = 1 ∨ t = 2 by omega) with rfl | rfl | rfl
    all_goals
      simp (disch := omega) only [↓reduceIte, obs, esc_il, esc_ir, leT, leF, ltT, ltF, eqT, eqF, nleT, nleF, nltT, nltF, neqT, neqF, nI_add, pk_mul, ald_nI, ast_nI, irm_nI, idv_nI, zbT, zbF, in_T, in_F1, in_F2, nI_l, sI_1, sI_2, sA_1, sA_2, subK, add0, sub0, or0, lN_add, lN_mul, L_0, L_1, L_2, L_3, L_4, L_5, L_6, L_7, L_8, L_9, L_10, L_11, L_12, L_13, L_14, L_15, L_16, L_17, L_18, L_19, L_20, L_30, L_31, L_32, L_35, L_37, L_39, L_40, L_43, L_48, L_57, L_59, L_60, L_97, L_99, L_100, L_120, L_122, L_127, L_160, L_200, L_255, L_999, L_1000, L_100000, L_1000000, LL_0, LL_1, LL_2, LL_3, LL_5, LL_9, LL_10, LL_11, LL_12, LL_19, LL_20, LL_30, LL_39, LL_60, LL_99, LL_127, LL_999]
      exact ⟨_, _, rfl, rfl, rfl, Rel_lay hR hk e3 hmn e4 _⟩
  · simp (disch := omega) only [↓reduceIte, obs, esc_il, esc_ir, leT, leF, ltT, ltF, eqT, eqF, nleT, nleF, nltT, nltF, neqT, neqF, nI_add, pk_mul, ald_nI, ast_nI, irm_nI, idv_nI, zbT, zbF, in_T, in_F1, in_F2, nI_l, sI_1, sI_2, sA_1, sA_2, subK, add0, sub0, or0, lN_add, lN_mul, L_0, L_1, L_2, L_3, L_4, L_5, L_6, L_7, L_8, L_9, L_10, L_11, L_12, L_13, L_14, L_15, L_16, L_17, L_18, L_19, L_20, L_30, L_31, L_32, L_35, L_37, L_39, L_40, L_43, L_48, L_57, L_59, L_60, L_97, L_99, L_100, L_120, L_122, L_127, L_160, L_200, L_255, L_999, L_1000, L_100000, L_1000000, LL_0, LL_1, LL_2, LL_3, LL_5, LL_9, LL_10, LL_11, LL_12, LL_19, LL_20, LL_30, LL_39, LL_60, LL_99, LL_127, LL_999]
    exact ⟨_, _, rfl, rfl, rfl, hR.same _⟩
theorem st_sheet_0 {F : FS} {M : GS} (hR : Rel F M) (r : Int32) (i : Int32) (n : Int32) (hs : ¬ (r < 0 ∨ 4 ≤ r.toNatClampNeg) → r.toNatClampNeg = 0) : ∃ (o : Int32 × GS) (o' : Int32 × GS), mX7_sheet (F.1 8) r i n = some o ∧ mX8_sheet M r i n = some o' ∧ o.1 = o'.1 ∧ Rel ((va_up F.1 8 o.2), F.2.1, F.2.2) o'.2 := st_sheet_g hR 0 (by decide) r i n hs
theorem st_lay_0 {F : FS} {M : GS} (hR : Rel F M) (r : Int32) (i : Int32) (x : Int32) (hs : ¬ (r < 0 ∨ 4 ≤ r.toNatClampNeg) → r.toNatClampNeg = 0) : ∃ (o : Int32 × GS) (o' : Int32 × GS), mX7_lay (F.1 8) r i x = some o ∧ mX8_lay M r i x = some o' ∧ o.1 = o'.1 ∧ Rel ((va_up F.1 8 o.2), F.2.1, F.2.2) o'.2 := st_lay_g hR 0 (by decide) r i x hs
theorem st_sheet_1 {F : FS} {M : GS} (hR : Rel F M) (r : Int32) (i : Int32) (n : Int32) (hs : ¬ (r < 0 ∨ 4 ≤ r.toNatClampNeg) → r.toNatClampNeg = 1) : ∃ (o : Int32 × GS) (o' : Int32 × GS), mX7_sheet (F.1 9) r i n = some o ∧ mX8_sheet M r i n = some o' ∧ o.1 = o'.1 ∧ Rel ((va_up F.1 9 o.2), F.2.1, F.2.2) o'.2 := st_sheet_g hR 1 (by decide) r i n hs
theorem st_lay_1 {F : FS} {M : GS} (hR : Rel F M) (r : Int32) (i : Int32) (x : Int32) (hs : ¬ (r < 0 ∨ 4 ≤ r.toNatClampNeg) → r.toNatClampNeg = 1) : ∃ (o : Int32 × GS) (o' : Int32 × GS), mX7_lay (F.1 9) r i x = some o ∧ mX8_lay M r i x = some o' ∧ o.1 = o'.1 ∧ Rel ((va_up F.1 9 o.2), F.2.1, F.2.2) o'.2 := st_lay_g hR 1 (by decide) r i x hs
theorem st_sheet_2 {F : FS} {M : GS} (hR : Rel F M) (r : Int32) (i : Int32) (n : Int32) (hs : ¬ (r < 0 ∨ 4 ≤ r.toNatClampNeg) → r.toNatClampNeg = 2) : ∃ (o : Int32 × GS) (o' : Int32 × GS), mX7_sheet (F.1 10) r i n = some o ∧ mX8_sheet M r i n = some o' ∧ o.1 = o'.1 ∧ Rel ((va_up F.1 10 o.2), F.2.1, F.2.2) o'.2 := st_sheet_g hR 2 (by decide) r i n hs
theorem st_lay_2 {F : FS} {M : GS} (hR : Rel F M) (r : Int32) (i : Int32) (x : Int32) (hs : ¬ (r < 0 ∨ 4 ≤ r.toNatClampNeg) → r.toNatClampNeg = 2) : ∃ (o : Int32 × GS) (o' : Int32 × GS), mX7_lay (F.1 10) r i x = some o ∧ mX8_lay M r i x = some o' ∧ o.1 = o'.1 ∧ Rel ((va_up F.1 10 o.2), F.2.1, F.2.2) o'.2 := st_lay_g hR 2 (by decide) r i x hs
theorem st_sheet_3 {F : FS} {M : GS} (hR : Rel F M) (r : Int32) (i : Int32) (n : Int32) (hs : ¬ (r < 0 ∨ 4 ≤ r.toNatClampNeg) → r.toNatClampNeg = 3) : ∃ (o : Int32 × GS) (o' : Int32 × GS), mX7_sheet (F.1 11) r i n = some o ∧ mX8_sheet M r i n = some o' ∧ o.1 = o'.1 ∧ Rel ((va_up F.1 11 o.2), F.2.1, F.2.2) o'.2 := st_sheet_g hR 3 (by decide) r i n hs
theorem st_lay_3 {F : FS} {M : GS} (hR : Rel F M) (r : Int32) (i : Int32) (x : Int32) (hs : ¬ (r < 0 ∨ 4 ≤ r.toNatClampNeg) → r.toNatClampNeg = 3) : ∃ (o : Int32 × GS) (o' : Int32 × GS), mX7_lay (F.1 11) r i x = some o ∧ mX8_lay M r i x = some o' ∧ o.1 = o'.1 ∧ Rel ((va_up F.1 11 o.2), F.2.1, F.2.2) o'.2 := st_lay_g hR 3 (by decide) r i x hs
theorem warmthOfAll_e {g : GS} {a : AH} (hv : HV g a) (hi : HI a) : mX0_warmthOfAll g = some (nI (sumN (a.1 1) (a.2 5))) := by
  have hb := hi.nb
  unfold mX0_warmthOfAll
  rw [whO_for (fun i => (nI (sumN (a.1 1) i), nI i)) (a.2 5) (nI (sumN (a.1 1) (a.2 5)), nI (a.2 5)) (by rfl) ?_ ?_ (by omega)]
  · rfl
  · intro i h
    unfold mX0_warmthOfAll_l4
    simp (disch := omega) only [↓reduceIte, obs, esc_il, esc_ir, leT, leF, ltT, ltF, eqT, eqF, nleT, nleF, nltT, nltF, neqT, neqF, nI_add, pk_mul, ald_nI, ast_nI, irm_nI, idv_nI, zbT, zbF, in_T, in_F1, in_F2, nI_l, sI_1, sI_2, sA_1, sA_2, subK, add0, sub0, or0, lN_add, lN_mul, L_0, L_1, L_2, L_3, L_4, L_5, L_6, L_7, L_8, L_9, L_10, L_11, L_12, L_13, L_14, L_15, L_16, L_17, L_18, L_19, L_20, L_30, L_31, L_32, L_35, L_37, L_39, L_40, L_43, L_48, L_57, L_59, L_60, L_97, L_99, L_100, L_120, L_122, L_127, L_160, L_200, L_255, L_999, L_1000, L_100000, L_1000000, LL_0, LL_1, LL_2, LL_3, LL_5, LL_9, LL_10, LL_11, LL_12, LL_19, LL_20, LL_30, LL_39, LL_60, LL_99, LL_127, LL_999, hv.b, hv.w, hv.s, hv.wd, hv.re, hv.u, hv.y, hv.r, hv.kd, hv.wm, hv.fd, hv.ln, hv.pr, hasPlace_e hv hi, hasBlock_e hv hi, hasRoll_e hv hi, whoAt_e hv hi, frankAt_e hv hi, frankOfAll_e hv hi, frankFrom_e hv hi, sumN]
  · unfold mX0_warmthOfAll_l4
    simp (disch := omega) only [↓reduceIte, obs, esc_il, esc_ir, leT, leF, ltT, ltF, eqT, eqF, nleT, nleF, nltT, nltF, neqT, neqF, nI_add, pk_mul, ald_nI, ast_nI, irm_nI, idv_nI, zbT, zbF, in_T, in_F1, in_F2, nI_l, sI_1, sI_2, sA_1, sA_2, subK, add0, sub0, or0, lN_add, lN_mul, L_0, L_1, L_2, L_3, L_4, L_5, L_6, L_7, L_8, L_9, L_10, L_11, L_12, L_13, L_14, L_15, L_16, L_17, L_18, L_19, L_20, L_30, L_31, L_32, L_35, L_37, L_39, L_40, L_43, L_48, L_57, L_59, L_60, L_97, L_99, L_100, L_120, L_122, L_127, L_160, L_200, L_255, L_999, L_1000, L_100000, L_1000000, LL_0, LL_1, LL_2, LL_3, LL_5, LL_9, LL_10, LL_11, LL_12, LL_19, LL_20, LL_30, LL_39, LL_60, LL_99, LL_127, LL_999, hv.b, hv.w, hv.s, hv.wd, hv.re, hv.u, hv.y, hv.r, hv.kd, hv.wm, hv.fd, hv.ln, hv.pr, hasPlace_e hv hi, hasBlock_e hv hi, hasRoll_e hv hi, whoAt_e hv hi, frankAt_e hv hi, frankOfAll_e hv hi, frankFrom_e hv hi]
theorem fadeOfAll_e {g : GS} {a : AH} (hv : HV g a) (hi : HI a) : mX0_fadeOfAll g = some (nI (sumN (a.1 2) (a.2 6))) := by
  have hb := hi.nb
  unfold mX0_fadeOfAll
  rw [whO_for (fun i => (nI (sumN (a.1 2) i), nI i)) (a.2 6) (nI (sumN (a.1 2) (a.2 6)), nI (a.2 6)) (by rfl) ?_ ?_ (by omega)]
  · rfl
  · intro i h
    unfold mX0_fadeOfAll_l4
    simp (disch := omega) only [↓reduceIte, obs, esc_il, esc_ir, leT, leF, ltT, ltF, eqT, eqF, nleT, nleF, nltT, nltF, neqT, neqF, nI_add, pk_mul, ald_nI, ast_nI, irm_nI, idv_nI, zbT, zbF, in_T, in_F1, in_F2, nI_l, sI_1, sI_2, sA_1, sA_2, subK, add0, sub0, or0, lN_add, lN_mul, L_0, L_1, L_2, L_3, L_4, L_5, L_6, L_7, L_8, L_9, L_10, L_11, L_12, L_13, L_14, L_15, L_16, L_17, L_18, L_19, L_20, L_30, L_31, L_32, L_35, L_37, L_39, L_40, L_43, L_48, L_57, L_59, L_60, L_97, L_99, L_100, L_120, L_122, L_127, L_160, L_200, L_255, L_999, L_1000, L_100000, L_1000000, LL_0, LL_1, LL_2, LL_3, LL_5, LL_9, LL_10, LL_11, LL_12, LL_19, LL_20, LL_30, LL_39, LL_60, LL_99, LL_127, LL_999, hv.b, hv.w, hv.s, hv.wd, hv.re, hv.u, hv.y, hv.r, hv.kd, hv.wm, hv.fd, hv.ln, hv.pr, hasPlace_e hv hi, hasBlock_e hv hi, hasRoll_e hv hi, whoAt_e hv hi, frankAt_e hv hi, frankOfAll_e hv hi, frankFrom_e hv hi, sumN]
  · unfold mX0_fadeOfAll_l4
    simp (disch := omega) only [↓reduceIte, obs, esc_il, esc_ir, leT, leF, ltT, ltF, eqT, eqF, nleT, nleF, nltT, nltF, neqT, neqF, nI_add, pk_mul, ald_nI, ast_nI, irm_nI, idv_nI, zbT, zbF, in_T, in_F1, in_F2, nI_l, sI_1, sI_2, sA_1, sA_2, subK, add0, sub0, or0, lN_add, lN_mul, L_0, L_1, L_2, L_3, L_4, L_5, L_6, L_7, L_8, L_9, L_10, L_11, L_12, L_13, L_14, L_15, L_16, L_17, L_18, L_19, L_20, L_30, L_31, L_32, L_35, L_37, L_39, L_40, L_43, L_48, L_57, L_59, L_60, L_97, L_99, L_100, L_120, L_122, L_127, L_160, L_200, L_255, L_999, L_1000, L_100000, L_1000000, LL_0, LL_1, LL_2, LL_3, LL_5, LL_9, LL_10, LL_11, LL_12, LL_19, LL_20, LL_30, LL_39, LL_60, LL_99, LL_127, LL_999, hv.b, hv.w, hv.s, hv.wd, hv.re, hv.u, hv.y, hv.r, hv.kd, hv.wm, hv.fd, hv.ln, hv.pr, hasPlace_e hv hi, hasBlock_e hv hi, hasRoll_e hv hi, whoAt_e hv hi, frankAt_e hv hi, frankOfAll_e hv hi, frankFrom_e hv hi]
theorem count7_e {M : GS} {a : AH} (hp : PV (M.1 0) 0 a) (hi : HI a) : whO (mX8_count_l7 M) FU ((0 : Int32), (0 : Int32)) = some (nI (sumN (a.1 1) (a.2 5)), nI (a.2 5)) := by
  have hb := hi.nb
  refine whO_for (fun i => (nI (sumN (a.1 1) i), nI i)) (a.2 5) _ (by rfl) ?_ ?_ (by omega)
  · intro i h
    unfold mX8_count_l7
    simp (disch := omega) only [↓reduceIte, obs, esc_il, esc_ir, leT, leF, ltT, ltF, eqT, eqF, nleT, nleF, nltT, nltF, neqT, neqF, nI_add, pk_mul, ald_nI, ast_nI, irm_nI, idv_nI, zbT, zbF, in_T, in_F1, in_F2, nI_l, sI_1, sI_2, sA_1, sA_2, subK, add0, sub0, or0, lN_add, lN_mul, L_0, L_1, L_2, L_3, L_4, L_5, L_6, L_7, L_8, L_9, L_10, L_11, L_12, L_13, L_14, L_15, L_16, L_17, L_18, L_19, L_20, L_30, L_31, L_32, L_35, L_37, L_39, L_40, L_43, L_48, L_57, L_59, L_60, L_97, L_99, L_100, L_120, L_122, L_127, L_160, L_200, L_255, L_999, L_1000, L_100000, L_1000000, LL_0, LL_1, LL_2, LL_3, LL_5, LL_9, LL_10, LL_11, LL_12, LL_19, LL_20, LL_30, LL_39, LL_60, LL_99, LL_127, LL_999, P0.b hp, P0.w hp, P0.s hp, P0.wd hp, P0.re hp, P0.u hp, P0.y hp, P0.r hp, P0.kd hp, P0.wm hp, P0.fd hp, P0.ln hp, P0.pr hp, isPlace_e hp hi, isBlock_e hp hi, isRoll_e hp hi, whoOn_e hp (by decide) hi, frankOn_e hp (by decide) hi, longOn_e hp (by decide), frankOfAll8_e hp (by decide) hi, sumN]
  · unfold mX8_count_l7
    simp (disch := omega) only [↓reduceIte, obs, esc_il, esc_ir, leT, leF, ltT, ltF, eqT, eqF, nleT, nleF, nltT, nltF, neqT, neqF, nI_add, pk_mul, ald_nI, ast_nI, irm_nI, idv_nI, zbT, zbF, in_T, in_F1, in_F2, nI_l, sI_1, sI_2, sA_1, sA_2, subK, add0, sub0, or0, lN_add, lN_mul, L_0, L_1, L_2, L_3, L_4, L_5, L_6, L_7, L_8, L_9, L_10, L_11, L_12, L_13, L_14, L_15, L_16, L_17, L_18, L_19, L_20, L_30, L_31, L_32, L_35, L_37, L_39, L_40, L_43, L_48, L_57, L_59, L_60, L_97, L_99, L_100, L_120, L_122, L_127, L_160, L_200, L_255, L_999, L_1000, L_100000, L_1000000, LL_0, LL_1, LL_2, LL_3, LL_5, LL_9, LL_10, LL_11, LL_12, LL_19, LL_20, LL_30, LL_39, LL_60, LL_99, LL_127, LL_999, P0.b hp, P0.w hp, P0.s hp, P0.wd hp, P0.re hp, P0.u hp, P0.y hp, P0.r hp, P0.kd hp, P0.wm hp, P0.fd hp, P0.ln hp, P0.pr hp, isPlace_e hp hi, isBlock_e hp hi, isRoll_e hp hi, whoOn_e hp (by decide) hi, frankOn_e hp (by decide) hi, longOn_e hp (by decide), frankOfAll8_e hp (by decide) hi]
theorem count41_e {M : GS} {a : AH} (hp : PV (M.1 0) 0 a) (hi : HI a) : whO (mX8_count_l41 M) FU ((0 : Int32), (0 : Int32)) = some (nI (sumN (a.1 2) (a.2 6)), nI (a.2 6)) := by
  have hb := hi.nb
  refine whO_for (fun i => (nI (sumN (a.1 2) i), nI i)) (a.2 6) _ (by rfl) ?_ ?_ (by omega)
  · intro i h
    unfold mX8_count_l41
    simp (disch := omega) only [↓reduceIte, obs, esc_il, esc_ir, leT, leF, ltT, ltF, eqT, eqF, nleT, nleF, nltT, nltF, neqT, neqF, nI_add, pk_mul, ald_nI, ast_nI, irm_nI, idv_nI, zbT, zbF, in_T, in_F1, in_F2, nI_l, sI_1, sI_2, sA_1, sA_2, subK, add0, sub0, or0, lN_add, lN_mul, L_0, L_1, L_2, L_3, L_4, L_5, L_6, L_7, L_8, L_9, L_10, L_11, L_12, L_13, L_14, L_15, L_16, L_17, L_18, L_19, L_20, L_30, L_31, L_32, L_35, L_37, L_39, L_40, L_43, L_48, L_57, L_59, L_60, L_97, L_99, L_100, L_120, L_122, L_127, L_160, L_200, L_255, L_999, L_1000, L_100000, L_1000000, LL_0, LL_1, LL_2, LL_3, LL_5, LL_9, LL_10, LL_11, LL_12, LL_19, LL_20, LL_30, LL_39, LL_60, LL_99, LL_127, LL_999, P0.b hp, P0.w hp, P0.s hp, P0.wd hp, P0.re hp, P0.u hp, P0.y hp, P0.r hp, P0.kd hp, P0.wm hp, P0.fd hp, P0.ln hp, P0.pr hp, isPlace_e hp hi, isBlock_e hp hi, isRoll_e hp hi, whoOn_e hp (by decide) hi, frankOn_e hp (by decide) hi, longOn_e hp (by decide), frankOfAll8_e hp (by decide) hi, sumN]
  · unfold mX8_count_l41
    simp (disch := omega) only [↓reduceIte, obs, esc_il, esc_ir, leT, leF, ltT, ltF, eqT, eqF, nleT, nleF, nltT, nltF, neqT, neqF, nI_add, pk_mul, ald_nI, ast_nI, irm_nI, idv_nI, zbT, zbF, in_T, in_F1, in_F2, nI_l, sI_1, sI_2, sA_1, sA_2, subK, add0, sub0, or0, lN_add, lN_mul, L_0, L_1, L_2, L_3, L_4, L_5, L_6, L_7, L_8, L_9, L_10, L_11, L_12, L_13, L_14, L_15, L_16, L_17, L_18, L_19, L_20, L_30, L_31, L_32, L_35, L_37, L_39, L_40, L_43, L_48, L_57, L_59, L_60, L_97, L_99, L_100, L_120, L_122, L_127, L_160, L_200, L_255, L_999, L_1000, L_100000, L_1000000, LL_0, LL_1, LL_2, LL_3, LL_5, LL_9, LL_10, LL_11, LL_12, LL_19, LL_20, LL_30, LL_39, LL_60, LL_99, LL_127, LL_999, P0.b hp, P0.w hp, P0.s hp, P0.wd hp, P0.re hp, P0.u hp, P0.y hp, P0.r hp, P0.kd hp, P0.wm hp, P0.fd hp, P0.ln hp, P0.pr hp, isPlace_e hp hi, isBlock_e hp hi, isRoll_e hp hi, whoOn_e hp (by decide) hi, frankOn_e hp (by decide) hi, longOn_e hp (by decide), frankOfAll8_e hp (by decide) hi]
theorem st_count {F : FS} {M : GS} (hR : Rel F M) (w : Int32) : ∃ (o : Int32) (o' : Int32), mX7_count (F.1 0) (F.1 4) (F.1 6) (F.2.1 0) (F.2.1 1) (F.1 8) w = some o ∧ mX8_count M w = some o' ∧ o = o' ∧ Rel F M := by
  obtain ⟨⟨a, hv, hp, hi, hy⟩, -⟩ := id hR
  have hb := hi.nb
  obtain ⟨v0, hv0, i1, i2, -⟩ := hR.I 0 (by decide)
  obtain ⟨v1, hv1, i3, i4, -⟩ := hR.I 1 (by decide)
  obtain ⟨t, ht, t1, t2, -⟩ := hR.T
  obtain ⟨m, hm, m1, m2, -⟩ := hR.S
  obtain ⟨r1, r2, n, r3, r4, r5, -⟩ := hR.R 0 (by decide)
  unfold mX7_count mX8_count mX7_imagesHeld mX7_cellsOfFirst
  rw [count7_e hp hi, obs, count41_e hp hi, obs, warmthOfAll_e hv hi, fadeOfAll_e hv hi]
  rcases cs2 w with h | ⟨c, hc, rfl⟩
  · simp (disch := omega) only [↓reduceIte, obs, esc_il, esc_ir, leT, leF, ltT, ltF, eqT, eqF, nleT, nleF, nltT, nltF, neqT, neqF, nI_add, pk_mul, ald_nI, ast_nI, irm_nI, idv_nI, zbT, zbF, in_T, in_F1, in_F2, nI_l, sI_1, sI_2, sA_1, sA_2, subK, add0, sub0, or0, lN_add, lN_mul, L_0, L_1, L_2, L_3, L_4, L_5, L_6, L_7, L_8, L_9, L_10, L_11, L_12, L_13, L_14, L_15, L_16, L_17, L_18, L_19, L_20, L_30, L_31, L_32, L_35, L_37, L_39, L_40, L_43, L_48, L_57, L_59, L_60, L_97, L_99, L_100, L_120, L_122, L_127, L_160, L_200, L_255, L_999, L_1000, L_100000, L_1000000, LL_0, LL_1, LL_2, LL_3, LL_5, LL_9, LL_10, LL_11, LL_12, LL_19, LL_20, LL_30, LL_39, LL_60, LL_99, LL_127, LL_999, ngLt h, ngLe h, ngGe h, ngGt h, ngEq h, ngEq' h, in_ng h, zb_ng h]
    exact ⟨_, _, rfl, rfl, rfl, hR⟩
  rcases (show c = 0 ∨ c = 1 ∨ c = 2 ∨ c = 3 ∨ c = 4 ∨ c = 5 ∨ 6 ≤ c by omega) with rfl | rfl | rfl | rfl | rfl | rfl | h6
  · simp (disch := omega) only [↓reduceIte, obs, esc_il, esc_ir, leT, leF, ltT, ltF, eqT, eqF, nleT, nleF, nltT, nltF, neqT, neqF, nI_add, pk_mul, ald_nI, ast_nI, irm_nI, idv_nI, zbT, zbF, in_T, in_F1, in_F2, nI_l, sI_1, sI_2, sA_1, sA_2, subK, add0, sub0, or0, lN_add, lN_mul, L_0, L_1, L_2, L_3, L_4, L_5, L_6, L_7, L_8, L_9, L_10, L_11, L_12, L_13, L_14, L_15, L_16, L_17, L_18, L_19, L_20, L_30, L_31, L_32, L_35, L_37, L_39, L_40, L_43, L_48, L_57, L_59, L_60, L_97, L_99, L_100, L_120, L_122, L_127, L_160, L_200, L_255, L_999, L_1000, L_100000, L_1000000, LL_0, LL_1, LL_2, LL_3, LL_5, LL_9, LL_10, LL_11, LL_12, LL_19, LL_20, LL_30, LL_39, LL_60, LL_99, LL_127, LL_999, m1, m2]
    exact ⟨_, _, rfl, rfl, rfl, hR⟩
  · rcases (show v0 = 0 ∨ v0 = 1 by omega) with rfl | rfl
    all_goals
      rcases (show v1 = 0 ∨ v1 = 1 by omega) with rfl | rfl
      all_goals
        simp (disch := omega) only [↓reduceIte, obs, esc_il, esc_ir, leT, leF, ltT, ltF, eqT, eqF, nleT, nleF, nltT, nltF, neqT, neqF, nI_add, pk_mul, ald_nI, ast_nI, irm_nI, idv_nI, zbT, zbF, in_T, in_F1, in_F2, nI_l, sI_1, sI_2, sA_1, sA_2, subK, add0, sub0, or0, lN_add, lN_mul, L_0, L_1, L_2, L_3, L_4, L_5, L_6, L_7, L_8, L_9, L_10, L_11, L_12, L_13, L_14, L_15, L_16, L_17, L_18, L_19, L_20, L_30, L_31, L_32, L_35, L_37, L_39, L_40, L_43, L_48, L_57, L_59, L_60, L_97, L_99, L_100, L_120, L_122, L_127, L_160, L_200, L_255, L_999, L_1000, L_100000, L_1000000, LL_0, LL_1, LL_2, LL_3, LL_5, LL_9, LL_10, LL_11, LL_12, LL_19, LL_20, LL_30, LL_39, LL_60, LL_99, LL_127, LL_999, i1, i2, i3, i4]
        exact ⟨_, _, rfl, rfl, rfl, hR⟩
  · simp (disch := omega) only [↓reduceIte, obs, esc_il, esc_ir, leT, leF, ltT, ltF, eqT, eqF, nleT, nleF, nltT, nltF, neqT, neqF, nI_add, pk_mul, ald_nI, ast_nI, irm_nI, idv_nI, zbT, zbF, in_T, in_F1, in_F2, nI_l, sI_1, sI_2, sA_1, sA_2, subK, add0, sub0, or0, lN_add, lN_mul, L_0, L_1, L_2, L_3, L_4, L_5, L_6, L_7, L_8, L_9, L_10, L_11, L_12, L_13, L_14, L_15, L_16, L_17, L_18, L_19, L_20, L_30, L_31, L_32, L_35, L_37, L_39, L_40, L_43, L_48, L_57, L_59, L_60, L_97, L_99, L_100, L_120, L_122, L_127, L_160, L_200, L_255, L_999, L_1000, L_100000, L_1000000, LL_0, LL_1, LL_2, LL_3, LL_5, LL_9, LL_10, LL_11, LL_12, LL_19, LL_20, LL_30, LL_39, LL_60, LL_99, LL_127, LL_999, t1, t2]
    exact ⟨_, _, rfl, rfl, rfl, hR⟩
  · simp (disch := omega) only [↓reduceIte, eqT, eqF, L_0, L_1, L_2, L_3, L_5]
    have r1' : (F.1 8).2 1 = M.1 20 0 := r1
    have r4' : (F.1 8).2 2 = nI n := r4
    rw [r1', r4', ald_nI (by decide) (by decide), ald_nI (by decide) (by decide), obs, obs, r5]
    by_cases h4 : M.1 20 0 = -4
    · rw [if_pos h4]
      exact ⟨_, _, rfl, rfl, rfl, hR⟩
    · rw [if_neg h4]
      exact ⟨_, _, rfl, rfl, rfl, hR⟩
  · simp (disch := omega) only [↓reduceIte, obs, esc_il, esc_ir, leT, leF, ltT, ltF, eqT, eqF, nleT, nleF, nltT, nltF, neqT, neqF, nI_add, pk_mul, ald_nI, ast_nI, irm_nI, idv_nI, zbT, zbF, in_T, in_F1, in_F2, nI_l, sI_1, sI_2, sA_1, sA_2, subK, add0, sub0, or0, lN_add, lN_mul, L_0, L_1, L_2, L_3, L_4, L_5, L_6, L_7, L_8, L_9, L_10, L_11, L_12, L_13, L_14, L_15, L_16, L_17, L_18, L_19, L_20, L_30, L_31, L_32, L_35, L_37, L_39, L_40, L_43, L_48, L_57, L_59, L_60, L_97, L_99, L_100, L_120, L_122, L_127, L_160, L_200, L_255, L_999, L_1000, L_100000, L_1000000, LL_0, LL_1, LL_2, LL_3, LL_5, LL_9, LL_10, LL_11, LL_12, LL_19, LL_20, LL_30, LL_39, LL_60, LL_99, LL_127, LL_999]
    exact ⟨_, _, rfl, rfl, rfl, hR⟩
  · simp (disch := omega) only [↓reduceIte, obs, esc_il, esc_ir, leT, leF, ltT, ltF, eqT, eqF, nleT, nleF, nltT, nltF, neqT, neqF, nI_add, pk_mul, ald_nI, ast_nI, irm_nI, idv_nI, zbT, zbF, in_T, in_F1, in_F2, nI_l, sI_1, sI_2, sA_1, sA_2, subK, add0, sub0, or0, lN_add, lN_mul, L_0, L_1, L_2, L_3, L_4, L_5, L_6, L_7, L_8, L_9, L_10, L_11, L_12, L_13, L_14, L_15, L_16, L_17, L_18, L_19, L_20, L_30, L_31, L_32, L_35, L_37, L_39, L_40, L_43, L_48, L_57, L_59, L_60, L_97, L_99, L_100, L_120, L_122, L_127, L_160, L_200, L_255, L_999, L_1000, L_100000, L_1000000, LL_0, LL_1, LL_2, LL_3, LL_5, LL_9, LL_10, LL_11, LL_12, LL_19, LL_20, LL_30, LL_39, LL_60, LL_99, LL_127, LL_999]
    exact ⟨_, _, rfl, rfl, rfl, hR⟩
  · simp (disch := omega) only [↓reduceIte, obs, esc_il, esc_ir, leT, leF, ltT, ltF, eqT, eqF, nleT, nleF, nltT, nltF, neqT, neqF, nI_add, pk_mul, ald_nI, ast_nI, irm_nI, idv_nI, zbT, zbF, in_T, in_F1, in_F2, nI_l, sI_1, sI_2, sA_1, sA_2, subK, add0, sub0, or0, lN_add, lN_mul, L_0, L_1, L_2, L_3, L_4, L_5, L_6, L_7, L_8, L_9, L_10, L_11, L_12, L_13, L_14, L_15, L_16, L_17, L_18, L_19, L_20, L_30, L_31, L_32, L_35, L_37, L_39, L_40, L_43, L_48, L_57, L_59, L_60, L_97, L_99, L_100, L_120, L_122, L_127, L_160, L_200, L_255, L_999, L_1000, L_100000, L_1000000, LL_0, LL_1, LL_2, LL_3, LL_5, LL_9, LL_10, LL_11, LL_12, LL_19, LL_20, LL_30, LL_39, LL_60, LL_99, LL_127, LL_999]
    exact ⟨_, _, rfl, rfl, rfl, hR⟩
