/-! lowest terms; lamps -/
theorem leqT {a b : Nat} (h : a = b) : (lN a = lN b) = True := eq_true (by rw [h])
theorem leqF {a b : Nat} (h : a ≠ b) (ha : a < 2 ^ 63) (hb : b < 2 ^ 63) : (lN a = lN b) = False := eq_false (fun z => h ((pk_lEQ ha hb).mp z))
theorem lleT {a b : Nat} (h : a ≤ b) (hb : b < 2 ^ 63) : (lN a ≤ lN b) = True := eq_true ((pk_lLE (by omega) hb).mpr h)
theorem lrm_lN {a b : Nat} (ha : a < 2 ^ 63) (h0 : 0 < b) (hb : b < 2 ^ 63) : lrm (lN a) (lN b) = some (lN (a % b)) := by
  unfold lrm
  rw [if_neg (show ¬ lN b = (0 : Int64) from fun z => by have := (pk_lEQ hb (show (0 : Nat) < 2 ^ 63 by decide)).mp z; omega), pk_lRem ha h0 hb]
theorem ldv_lN {a b : Nat} (ha : a < 2 ^ 63) (h0 : 0 < b) (hb : b < 2 ^ 63) : ldv (lN a) (lN b) = some (lN (a / b)) := by
  unfold ldv
  rw [if_neg (show ¬ lN b = (0 : Int64) from fun z => by have := (pk_lEQ hb (show (0 : Nat) < 2 ^ 63 by decide)).mp z; omega), pk_lDiv ha h0 hb]
def sq (X Y : Nat) : Nat → Nat × Nat
  | 0 => (X, Y)
  | n + 1 => ((sq X Y n).2, (sq X Y n).1 % (sq X Y n).2)
theorem sq_shift (X Y : Nat) : ∀ n, sq X Y (n + 1) = sq Y (X % Y) n
  | 0 => rfl
  | n + 1 => by rw [sq, sq_shift X Y n, sq]
theorem half_mod {Y C : Nat} (h0 : 0 < C) (h : C < Y) : 2 * (Y % C) < Y := by
  have h1 := Nat.div_add_mod Y C
  have h2 : 1 ≤ Y / C := Nat.div_pos (by omega) h0
  have h3 := Nat.mul_le_mul_left C h2
  have h4 := Nat.mod_lt Y h0
  omega
theorem sq_end : ∀ k X Y, Y < 2 ^ k → ∃ i, i ≤ 2 * k ∧ (sq X Y i).2 = 0
  | 0, X, Y, h => ⟨0, by omega, by show Y = 0; rw [Nat.pow_zero] at h; omega⟩
  | k + 1, X, Y, h => by
    by_cases hY : Y = 0
    · exact ⟨0, by omega, hY⟩
    by_cases hC : X % Y = 0
    · exact ⟨1, by omega, hC⟩
    have h1 := half_mod (Nat.pos_of_ne_zero hC) (Nat.mod_lt X (Nat.pos_of_ne_zero hY))
    rw [Nat.pow_succ] at h
    obtain ⟨i, i1, i2⟩ := sq_end k (X % Y) (Y % (X % Y)) (by omega)
    refine ⟨i + 2, by omega, ?_⟩
    rw [sq_shift, sq_shift]; exact i2
theorem sq_lt {X Y : Nat} (hX : X < 2 ^ 63) (hY : Y < 2 ^ 63) : ∀ n, (sq X Y n).1 < 2 ^ 63 ∧ (sq X Y n).2 < 2 ^ 63
  | 0 => ⟨hX, hY⟩
  | n + 1 => by
    obtain ⟨h1, h2⟩ := sq_lt hX hY n
    refine ⟨h2, ?_⟩
    show (sq X Y n).1 % (sq X Y n).2 < _
    exact Nat.lt_of_le_of_lt (Nat.mod_le _ _) h1
theorem low_eq {X Y : Nat} (hX : X < 2 ^ 63) (h0 : 0 < Y) (hY : Y < 2 ^ 40) (w : Int32) : ∃ z, mX7_inLowestTerms (lN X) (lN Y) w = some z ∧ mX8_lowest (lN X) (lN Y) w = some z := by
  obtain ⟨T, hT, hm⟩ := pk_least (fun i => (sq X Y i).2 = 0) (by obtain ⟨i, -, h⟩ := sq_end 40 X Y hY; exact ⟨i, h⟩)
  have hT80 : T ≤ 80 := by
    obtain ⟨i, i1, i2⟩ := sq_end 40 X Y hY
    rcases Nat.lt_or_ge i T with h | h
    · exact absurd i2 (hm i h)
    · omega
  have hb := sq_lt hX (show Y < 2 ^ 63 by omega)
  have hG : 0 < (sq X Y T).1 := by
    cases T with
    | zero => exact absurd hT (show ¬ Y = 0 by omega)
    | succ t => exact Nat.pos_of_ne_zero (hm t (by omega))
  have l7 : whO (mX7_inLowestTerms_l9) FU (lN X, lN Y, nI 0) = some (lN (sq X Y T).1, lN (sq X Y T).2, nI T) := by
    refine whO_for (fun i => (lN (sq X Y i).1, lN (sq X Y i).2, nI i)) T _ rfl ?_ ?_ (by omega)
    · intro i hi
      have h1 := hb i
      have h2 : ¬ (sq X Y i).2 = 0 := hm i hi
      unfold mX7_inLowestTerms_l9
      simp (disch := omega) only [↓reduceIte, obs, esc_il, esc_ir, leT, leF, ltT, ltF, eqT, eqF, nleT, nleF, nltT, nltF, neqT, neqF, nI_add, pk_mul, ald_nI, ast_nI, irm_nI, idv_nI, zbT, zbF, in_T, in_F1, in_F2, nI_l, sI_1, sI_2, sA_1, sA_2, subK, add0, sub0, or0, lN_add, lN_mul, L_0, L_1, L_2, L_3, L_4, L_5, L_6, L_7, L_8, L_9, L_10, L_11, L_12, L_13, L_14, L_15, L_16, L_17, L_18, L_19, L_20, L_30, L_31, L_32, L_35, L_37, L_39, L_40, L_43, L_48, L_57, L_59, L_60, L_97, L_99, L_100, L_120, L_122, L_127, L_160, L_200, L_255, L_999, L_1000, L_100000, L_1000000, L_24, L_33, L_34, L_36, L_38, L_69, L_70, L_72, L_214, L_215, L_288, L_174, L_175, L_206, LL_0, LL_1, LL_2, LL_3, LL_5, LL_9, LL_10, LL_11, LL_12, LL_19, LL_20, LL_30, LL_39, LL_60, LL_99, LL_127, LL_999, leqF, lrm_lN, sq]
    · unfold mX7_inLowestTerms_l9
      simp (disch := omega) only [↓reduceIte, obs, esc_il, esc_ir, leT, leF, ltT, ltF, eqT, eqF, nleT, nleF, nltT, nltF, neqT, neqF, nI_add, pk_mul, ald_nI, ast_nI, irm_nI, idv_nI, zbT, zbF, in_T, in_F1, in_F2, nI_l, sI_1, sI_2, sA_1, sA_2, subK, add0, sub0, or0, lN_add, lN_mul, L_0, L_1, L_2, L_3, L_4, L_5, L_6, L_7, L_8, L_9, L_10, L_11, L_12, L_13, L_14, L_15, L_16, L_17, L_18, L_19, L_20, L_30, L_31, L_32, L_35, L_37, L_39, L_40, L_43, L_48, L_57, L_59, L_60, L_97, L_99, L_100, L_120, L_122, L_127, L_160, L_200, L_255, L_999, L_1000, L_100000, L_1000000, L_24, L_33, L_34, L_36, L_38, L_69, L_70, L_72, L_214, L_215, L_288, L_174, L_175, L_206, LL_0, LL_1, LL_2, LL_3, LL_5, LL_9, LL_10, LL_11, LL_12, LL_19, LL_20, LL_30, LL_39, LL_60, LL_99, LL_127, LL_999, hT, leqT]
  have l8 : whO (mX8_lowest_l6) FU (lN X, lN Y) = some (lN (sq X Y T).1, lN (sq X Y T).2) := by
    refine whO_for (fun i => (lN (sq X Y i).1, lN (sq X Y i).2)) T _ rfl ?_ ?_ (by omega)
    · intro i hi
      have h1 := hb i
      have h2 : ¬ (sq X Y i).2 = 0 := hm i hi
      unfold mX8_lowest_l6
      simp (disch := omega) only [↓reduceIte, obs, esc_il, esc_ir, leT, leF, ltT, ltF, eqT, eqF, nleT, nleF, nltT, nltF, neqT, neqF, nI_add, pk_mul, ald_nI, ast_nI, irm_nI, idv_nI, zbT, zbF, in_T, in_F1, in_F2, nI_l, sI_1, sI_2, sA_1, sA_2, subK, add0, sub0, or0, lN_add, lN_mul, L_0, L_1, L_2, L_3, L_4, L_5, L_6, L_7, L_8, L_9, L_10, L_11, L_12, L_13, L_14, L_15, L_16, L_17, L_18, L_19, L_20, L_30, L_31, L_32, L_35, L_37, L_39, L_40, L_43, L_48, L_57, L_59, L_60, L_97, L_99, L_100, L_120, L_122, L_127, L_160, L_200, L_255, L_999, L_1000, L_100000, L_1000000, L_24, L_33, L_34, L_36, L_38, L_69, L_70, L_72, L_214, L_215, L_288, L_174, L_175, L_206, LL_0, LL_1, LL_2, LL_3, LL_5, LL_9, LL_10, LL_11, LL_12, LL_19, LL_20, LL_30, LL_39, LL_60, LL_99, LL_127, LL_999, leqF, lrm_lN, sq]
    · unfold mX8_lowest_l6
      simp (disch := omega) only [↓reduceIte, obs, esc_il, esc_ir, leT, leF, ltT, ltF, eqT, eqF, nleT, nleF, nltT, nltF, neqT, neqF, nI_add, pk_mul, ald_nI, ast_nI, irm_nI, idv_nI, zbT, zbF, in_T, in_F1, in_F2, nI_l, sI_1, sI_2, sA_1, sA_2, subK, add0, sub0, or0, lN_add, lN_mul, L_0, L_1, L_2, L_3, L_4, L_5, L_6, L_7, L_8, L_9, L_10, L_11, L_12, L_13, L_14, L_15, L_16, L_17, L_18, L_19, L_20, L_30, L_31, L_32, L_35, L_37, L_39, L_40, L_43, L_48, L_57, L_59, L_60, L_97, L_99, L_100, L_120, L_122, L_127, L_160, L_200, L_255, L_999, L_1000, L_100000, L_1000000, L_24, L_33, L_34, L_36, L_38, L_69, L_70, L_72, L_214, L_215, L_288, L_174, L_175, L_206, LL_0, LL_1, LL_2, LL_3, LL_5, LL_9, LL_10, LL_11, LL_12, LL_19, LL_20, LL_30, LL_39, LL_60, LL_99, LL_127, LL_999, hT, leqT]
  have hbT := hb T
  have hY63 : Y < 2 ^ 63 := by omega
  unfold mX7_inLowestTerms mX8_lowest
  by_cases hw : w = 0
  · refine ⟨lN (X / (sq X Y T).1), ?_, ?_⟩
    · rw [L_0, l7, obs]
      simp (disch := omega) only [lleT, ↓reduceIte, LL_1, ← L_0, hw, ldv_lN, obs]
    · rw [l8, obs, if_pos hw]
      simp (disch := omega) only [ldv_lN, obs]
  · refine ⟨lN (Y / (sq X Y T).1), ?_, ?_⟩
    · rw [L_0, l7, obs]
      have hw' : ¬ w = nI 0 := hw
      simp (disch := omega) only [lleT, ↓reduceIte, LL_1, hw', ldv_lN, obs]
    · rw [l8, obs, if_neg hw]
      simp (disch := omega) only [ldv_lN, obs]
theorem lamp_cs {h M : GS} {a : AH} (hv : HV h a) (hp : PV (M.1 0) 0 a) (hi : HI a) (x i j : Int32) : (mX7_areNoLamps h x i j = some (nI 1) ∧ ∀ w, mX8_isStretch M x i j w = some (nI 0)) ∨ ∃ v A B, v ≤ 10 ∧ A ≤ B ∧ B < a.2 6 ∧ x = nI v ∧ i = nI A ∧ j = nI B := by
  have hb := hi.nb
  unfold mX7_areNoLamps mX8_isStretch
  rcases cs2 x with hx | ⟨v, hv0, rfl⟩
  · left; simp (disch := omega) only [↓reduceIte, obs, esc_il, esc_ir, leT, leF, ltT, ltF, eqT, eqF, nleT, nleF, nltT, nltF, neqT, neqF, nI_add, pk_mul, ald_nI, ast_nI, irm_nI, idv_nI, zbT, zbF, in_T, in_F1, in_F2, nI_l, sI_1, sI_2, sA_1, sA_2, subK, add0, sub0, or0, lN_add, lN_mul, L_0, L_1, L_2, L_3, L_4, L_5, L_6, L_7, L_8, L_9, L_10, L_11, L_12, L_13, L_14, L_15, L_16, L_17, L_18, L_19, L_20, L_30, L_31, L_32, L_35, L_37, L_39, L_40, L_43, L_48, L_57, L_59, L_60, L_97, L_99, L_100, L_120, L_122, L_127, L_160, L_200, L_255, L_999, L_1000, L_100000, L_1000000, L_24, L_33, L_34, L_36, L_38, L_69, L_70, L_72, L_214, L_215, L_288, L_174, L_175, L_206, LL_0, LL_1, LL_2, LL_3, LL_5, LL_9, LL_10, LL_11, LL_12, LL_19, LL_20, LL_30, LL_39, LL_60, LL_99, LL_127, LL_999, ngLt hx, ngLe hx, ngGe hx, ngGt hx, ngEq hx, ngEq' hx, in_ng hx, zb_ng hx, implies_true, and_self]
  by_cases hv1 : v ≤ 10
  · rcases cs2 i with hx | ⟨A, hA, rfl⟩
    · left; simp (disch := omega) only [↓reduceIte, obs, esc_il, esc_ir, leT, leF, ltT, ltF, eqT, eqF, nleT, nleF, nltT, nltF, neqT, neqF, nI_add, pk_mul, ald_nI, ast_nI, irm_nI, idv_nI, zbT, zbF, in_T, in_F1, in_F2, nI_l, sI_1, sI_2, sA_1, sA_2, subK, add0, sub0, or0, lN_add, lN_mul, L_0, L_1, L_2, L_3, L_4, L_5, L_6, L_7, L_8, L_9, L_10, L_11, L_12, L_13, L_14, L_15, L_16, L_17, L_18, L_19, L_20, L_30, L_31, L_32, L_35, L_37, L_39, L_40, L_43, L_48, L_57, L_59, L_60, L_97, L_99, L_100, L_120, L_122, L_127, L_160, L_200, L_255, L_999, L_1000, L_100000, L_1000000, L_24, L_33, L_34, L_36, L_38, L_69, L_70, L_72, L_214, L_215, L_288, L_174, L_175, L_206, LL_0, LL_1, LL_2, LL_3, LL_5, LL_9, LL_10, LL_11, LL_12, LL_19, LL_20, LL_30, LL_39, LL_60, LL_99, LL_127, LL_999, hasPlace_e hv hi, isPlace_e hp hi, ngLt hx, ngLe hx, ngGe hx, ngGt hx, ngEq hx, ngEq' hx, in_ng hx, zb_ng hx, implies_true, and_self]
    by_cases hA1 : A < a.2 6
    · rcases cs2 j with hx | ⟨B, hB, rfl⟩
      · left; simp (disch := omega) only [↓reduceIte, obs, esc_il, esc_ir, leT, leF, ltT, ltF, eqT, eqF, nleT, nleF, nltT, nltF, neqT, neqF, nI_add, pk_mul, ald_nI, ast_nI, irm_nI, idv_nI, zbT, zbF, in_T, in_F1, in_F2, nI_l, sI_1, sI_2, sA_1, sA_2, subK, add0, sub0, or0, lN_add, lN_mul, L_0, L_1, L_2, L_3, L_4, L_5, L_6, L_7, L_8, L_9, L_10, L_11, L_12, L_13, L_14, L_15, L_16, L_17, L_18, L_19, L_20, L_30, L_31, L_32, L_35, L_37, L_39, L_40, L_43, L_48, L_57, L_59, L_60, L_97, L_99, L_100, L_120, L_122, L_127, L_160, L_200, L_255, L_999, L_1000, L_100000, L_1000000, L_24, L_33, L_34, L_36, L_38, L_69, L_70, L_72, L_214, L_215, L_288, L_174, L_175, L_206, LL_0, LL_1, LL_2, LL_3, LL_5, LL_9, LL_10, LL_11, LL_12, LL_19, LL_20, LL_30, LL_39, LL_60, LL_99, LL_127, LL_999, hasPlace_e hv hi, isPlace_e hp hi, ngLt hx, ngLe hx, ngGe hx, ngGt hx, ngEq hx, ngEq' hx, in_ng hx, zb_ng hx, implies_true, and_self]
      by_cases hB1 : B < a.2 6
      · by_cases hAB : A ≤ B
        · right; exact ⟨v, A, B, hv1, hAB, hB1, rfl, rfl, rfl⟩
        · left; simp (disch := omega) only [↓reduceIte, obs, esc_il, esc_ir, leT, leF, ltT, ltF, eqT, eqF, nleT, nleF, nltT, nltF, neqT, neqF, nI_add, pk_mul, ald_nI, ast_nI, irm_nI, idv_nI, zbT, zbF, in_T, in_F1, in_F2, nI_l, sI_1, sI_2, sA_1, sA_2, subK, add0, sub0, or0, lN_add, lN_mul, L_0, L_1, L_2, L_3, L_4, L_5, L_6, L_7, L_8, L_9, L_10, L_11, L_12, L_13, L_14, L_15, L_16, L_17, L_18, L_19, L_20, L_30, L_31, L_32, L_35, L_37, L_39, L_40, L_43, L_48, L_57, L_59, L_60, L_97, L_99, L_100, L_120, L_122, L_127, L_160, L_200, L_255, L_999, L_1000, L_100000, L_1000000, L_24, L_33, L_34, L_36, L_38, L_69, L_70, L_72, L_214, L_215, L_288, L_174, L_175, L_206, LL_0, LL_1, LL_2, LL_3, LL_5, LL_9, LL_10, LL_11, LL_12, LL_19, LL_20, LL_30, LL_39, LL_60, LL_99, LL_127, LL_999, hasPlace_e hv hi, isPlace_e hp hi, implies_true, and_self]
      · left; simp (disch := omega) only [↓reduceIte, obs, esc_il, esc_ir, leT, leF, ltT, ltF, eqT, eqF, nleT, nleF, nltT, nltF, neqT, neqF, nI_add, pk_mul, ald_nI, ast_nI, irm_nI, idv_nI, zbT, zbF, in_T, in_F1, in_F2, nI_l, sI_1, sI_2, sA_1, sA_2, subK, add0, sub0, or0, lN_add, lN_mul, L_0, L_1, L_2, L_3, L_4, L_5, L_6, L_7, L_8, L_9, L_10, L_11, L_12, L_13, L_14, L_15, L_16, L_17, L_18, L_19, L_20, L_30, L_31, L_32, L_35, L_37, L_39, L_40, L_43, L_48, L_57, L_59, L_60, L_97, L_99, L_100, L_120, L_122, L_127, L_160, L_200, L_255, L_999, L_1000, L_100000, L_1000000, L_24, L_33, L_34, L_36, L_38, L_69, L_70, L_72, L_214, L_215, L_288, L_174, L_175, L_206, LL_0, LL_1, LL_2, LL_3, LL_5, LL_9, LL_10, LL_11, LL_12, LL_19, LL_20, LL_30, LL_39, LL_60, LL_99, LL_127, LL_999, hasPlace_e hv hi, isPlace_e hp hi, implies_true, and_self]
    · left; simp (disch := omega) only [↓reduceIte, obs, esc_il, esc_ir, leT, leF, ltT, ltF, eqT, eqF, nleT, nleF, nltT, nltF, neqT, neqF, nI_add, pk_mul, ald_nI, ast_nI, irm_nI, idv_nI, zbT, zbF, in_T, in_F1, in_F2, nI_l, sI_1, sI_2, sA_1, sA_2, subK, add0, sub0, or0, lN_add, lN_mul, L_0, L_1, L_2, L_3, L_4, L_5, L_6, L_7, L_8, L_9, L_10, L_11, L_12, L_13, L_14, L_15, L_16, L_17, L_18, L_19, L_20, L_30, L_31, L_32, L_35, L_37, L_39, L_40, L_43, L_48, L_57, L_59, L_60, L_97, L_99, L_100, L_120, L_122, L_127, L_160, L_200, L_255, L_999, L_1000, L_100000, L_1000000, L_24, L_33, L_34, L_36, L_38, L_69, L_70, L_72, L_214, L_215, L_288, L_174, L_175, L_206, LL_0, LL_1, LL_2, LL_3, LL_5, LL_9, LL_10, LL_11, LL_12, LL_19, LL_20, LL_30, LL_39, LL_60, LL_99, LL_127, LL_999, hasPlace_e hv hi, isPlace_e hp hi, implies_true, and_self]
  · left; simp (disch := omega) only [↓reduceIte, obs, esc_il, esc_ir, leT, leF, ltT, ltF, eqT, eqF, nleT, nleF, nltT, nltF, neqT, neqF, nI_add, pk_mul, ald_nI, ast_nI, irm_nI, idv_nI, zbT, zbF, in_T, in_F1, in_F2, nI_l, sI_1, sI_2, sA_1, sA_2, subK, add0, sub0, or0, lN_add, lN_mul, L_0, L_1, L_2, L_3, L_4, L_5, L_6, L_7, L_8, L_9, L_10, L_11, L_12, L_13, L_14, L_15, L_16, L_17, L_18, L_19, L_20, L_30, L_31, L_32, L_35, L_37, L_39, L_40, L_43, L_48, L_57, L_59, L_60, L_97, L_99, L_100, L_120, L_122, L_127, L_160, L_200, L_255, L_999, L_1000, L_100000, L_1000000, L_24, L_33, L_34, L_36, L_38, L_69, L_70, L_72, L_214, L_215, L_288, L_174, L_175, L_206, LL_0, LL_1, LL_2, LL_3, LL_5, LL_9, LL_10, LL_11, LL_12, LL_19, LL_20, LL_30, LL_39, LL_60, LL_99, LL_127, LL_999, implies_true, and_self]
theorem lampOk7 {h : GS} {a : AH} (hv : HV h a) (hi : HI a) {v A B : Nat} (h1 : v ≤ 10) (h2 : A ≤ B) (h3 : B < a.2 6) : mX7_areNoLamps h (nI v) (nI A) (nI B) = some (nI 0) := by
  have hb := hi.nb
  unfold mX7_areNoLamps
  simp (disch := omega) only [↓reduceIte, obs, esc_il, esc_ir, leT, leF, ltT, ltF, eqT, eqF, nleT, nleF, nltT, nltF, neqT, neqF, nI_add, pk_mul, ald_nI, ast_nI, irm_nI, idv_nI, zbT, zbF, in_T, in_F1, in_F2, nI_l, sI_1, sI_2, sA_1, sA_2, subK, add0, sub0, or0, lN_add, lN_mul, L_0, L_1, L_2, L_3, L_4, L_5, L_6, L_7, L_8, L_9, L_10, L_11, L_12, L_13, L_14, L_15, L_16, L_17, L_18, L_19, L_20, L_30, L_31, L_32, L_35, L_37, L_39, L_40, L_43, L_48, L_57, L_59, L_60, L_97, L_99, L_100, L_120, L_122, L_127, L_160, L_200, L_255, L_999, L_1000, L_100000, L_1000000, L_24, L_33, L_34, L_36, L_38, L_69, L_70, L_72, L_214, L_215, L_288, L_174, L_175, L_206, LL_0, LL_1, LL_2, LL_3, LL_5, LL_9, LL_10, LL_11, LL_12, LL_19, LL_20, LL_30, LL_39, LL_60, LL_99, LL_127, LL_999, hasPlace_e hv hi]
theorem lampOk8n {M : GS} {a : AH} (hp : PV (M.1 0) 0 a) (hi : HI a) {v A B : Nat} (h1 : v ≤ 10) (h2 : A ≤ B) (h3 : B < a.2 6) {w : Int32} (hw : mX8_in w.toInt64 (lN 0) (lN 1) = some (nI 0)) : mX8_isStretch M (nI v) (nI A) (nI B) w = some (nI 0) := by
  have hb := hi.nb
  unfold mX8_isStretch
  simp (disch := omega) only [↓reduceIte, obs, esc_il, esc_ir, leT, leF, ltT, ltF, eqT, eqF, nleT, nleF, nltT, nltF, neqT, neqF, nI_add, pk_mul, ald_nI, ast_nI, irm_nI, idv_nI, zbT, zbF, in_T, in_F1, in_F2, nI_l, sI_1, sI_2, sA_1, sA_2, subK, add0, sub0, or0, lN_add, lN_mul, L_0, L_1, L_2, L_3, L_4, L_5, L_6, L_7, L_8, L_9, L_10, L_11, L_12, L_13, L_14, L_15, L_16, L_17, L_18, L_19, L_20, L_30, L_31, L_32, L_35, L_37, L_39, L_40, L_43, L_48, L_57, L_59, L_60, L_97, L_99, L_100, L_120, L_122, L_127, L_160, L_200, L_255, L_999, L_1000, L_100000, L_1000000, L_24, L_33, L_34, L_36, L_38, L_69, L_70, L_72, L_214, L_215, L_288, L_174, L_175, L_206, LL_0, LL_1, LL_2, LL_3, LL_5, LL_9, LL_10, LL_11, LL_12, LL_19, LL_20, LL_30, LL_39, LL_60, LL_99, LL_127, LL_999, isPlace_e hp hi, hw]
theorem lampOk8y {M : GS} {a : AH} (hp : PV (M.1 0) 0 a) (hi : HI a) {v A B : Nat} (h1 : v ≤ 10) (h2 : A ≤ B) (h3 : B < a.2 6) {w : Int32} (hw : mX8_in w.toInt64 (lN 0) (lN 1) = some (nI 1)) : mX8_isStretch M (nI v) (nI A) (nI B) w = some (nI 1) := by
  have hb := hi.nb
  unfold mX8_isStretch
  simp (disch := omega) only [↓reduceIte, obs, esc_il, esc_ir, leT, leF, ltT, ltF, eqT, eqF, nleT, nleF, nltT, nltF, neqT, neqF, nI_add, pk_mul, ald_nI, ast_nI, irm_nI, idv_nI, zbT, zbF, in_T, in_F1, in_F2, nI_l, sI_1, sI_2, sA_1, sA_2, subK, add0, sub0, or0, lN_add, lN_mul, L_0, L_1, L_2, L_3, L_4, L_5, L_6, L_7, L_8, L_9, L_10, L_11, L_12, L_13, L_14, L_15, L_16, L_17, L_18, L_19, L_20, L_30, L_31, L_32, L_35, L_37, L_39, L_40, L_43, L_48, L_57, L_59, L_60, L_97, L_99, L_100, L_120, L_122, L_127, L_160, L_200, L_255, L_999, L_1000, L_100000, L_1000000, L_24, L_33, L_34, L_36, L_38, L_69, L_70, L_72, L_214, L_215, L_288, L_174, L_175, L_206, LL_0, LL_1, LL_2, LL_3, LL_5, LL_9, LL_10, LL_11, LL_12, LL_19, LL_20, LL_30, LL_39, LL_60, LL_99, LL_127, LL_999, isPlace_e hp hi, hw]
theorem mean22_e {M : GS} {a : AH} (hp : PV (M.1 0) 0 a) (hi : HI a) {A B : Nat} (h2 : A ≤ B) (h3 : B < a.2 6) : whO (mX8_mean_l22 M (nI B)) FU (lN 0, nI A) = some (lN (sumW (frN a) A (B - A + 1)), nI (A + (B - A + 1))) := by
  have hb := hi.nb
  refine whO_for (fun t => (lN (sumW (frN a) A t), nI (A + t))) (B - A + 1) _ rfl ?_ ?_ (by omega)
  · intro t ht
    have h24 := frN_le hi (A + t)
    unfold mX8_mean_l22 sumW
    simp (disch := omega) only [↓reduceIte, obs, esc_il, esc_ir, leT, leF, ltT, ltF, eqT, eqF, nleT, nleF, nltT, nltF, neqT, neqF, nI_add, pk_mul, ald_nI, ast_nI, irm_nI, idv_nI, zbT, zbF, in_T, in_F1, in_F2, nI_l, sI_1, sI_2, sA_1, sA_2, subK, add0, sub0, or0, lN_add, lN_mul, L_0, L_1, L_2, L_3, L_4, L_5, L_6, L_7, L_8, L_9, L_10, L_11, L_12, L_13, L_14, L_15, L_16, L_17, L_18, L_19, L_20, L_30, L_31, L_32, L_35, L_37, L_39, L_40, L_43, L_48, L_57, L_59, L_60, L_97, L_99, L_100, L_120, L_122, L_127, L_160, L_200, L_255, L_999, L_1000, L_100000, L_1000000, L_24, L_33, L_34, L_36, L_38, L_69, L_70, L_72, L_214, L_215, L_288, L_174, L_175, L_206, LL_0, LL_1, LL_2, LL_3, LL_5, LL_9, LL_10, LL_11, LL_12, LL_19, LL_20, LL_30, LL_39, LL_60, LL_99, LL_127, LL_999, frankOn_e hp (by decide) hi, sumN, Nat.add_assoc]
  · unfold mX8_mean_l22
    simp (disch := omega) only [↓reduceIte, obs, esc_il, esc_ir, leT, leF, ltT, ltF, eqT, eqF, nleT, nleF, nltT, nltF, neqT, neqF, nI_add, pk_mul, ald_nI, ast_nI, irm_nI, idv_nI, zbT, zbF, in_T, in_F1, in_F2, nI_l, sI_1, sI_2, sA_1, sA_2, subK, add0, sub0, or0, lN_add, lN_mul, L_0, L_1, L_2, L_3, L_4, L_5, L_6, L_7, L_8, L_9, L_10, L_11, L_12, L_13, L_14, L_15, L_16, L_17, L_18, L_19, L_20, L_30, L_31, L_32, L_35, L_37, L_39, L_40, L_43, L_48, L_57, L_59, L_60, L_97, L_99, L_100, L_120, L_122, L_127, L_160, L_200, L_255, L_999, L_1000, L_100000, L_1000000, L_24, L_33, L_34, L_36, L_38, L_69, L_70, L_72, L_214, L_215, L_288, L_174, L_175, L_206, LL_0, LL_1, LL_2, LL_3, LL_5, LL_9, LL_10, LL_11, LL_12, LL_19, LL_20, LL_30, LL_39, LL_60, LL_99, LL_127, LL_999]
theorem st_mean {F : FS} {M : GS} (hR : Rel F M) (x : Int32) (i : Int32) (j : Int32) (w : Int32) : ∃ (o : Int64) (o' : Int64), mX7_mean (F.1 0) x i j w = some o ∧ mX8_mean M x i j w = some o' ∧ o = o' ∧ Rel F M := by
  obtain ⟨⟨a, hv, hp, hi, hy⟩, -⟩ := id hR
  have hb := hi.nb
  unfold mX7_mean mX8_mean
  rcases lamp_cs hv hp hi x i j with ⟨e1, e2⟩ | ⟨v, A, B, h1, h2, h3, rfl, rfl, rfl⟩
  · simp (disch := omega) only [↓reduceIte, obs, esc_il, esc_ir, leT, leF, ltT, ltF, eqT, eqF, nleT, nleF, nltT, nltF, neqT, neqF, nI_add, pk_mul, ald_nI, ast_nI, irm_nI, idv_nI, zbT, zbF, in_T, in_F1, in_F2, nI_l, sI_1, sI_2, sA_1, sA_2, subK, add0, sub0, or0, lN_add, lN_mul, L_0, L_1, L_2, L_3, L_4, L_5, L_6, L_7, L_8, L_9, L_10, L_11, L_12, L_13, L_14, L_15, L_16, L_17, L_18, L_19, L_20, L_30, L_31, L_32, L_35, L_37, L_39, L_40, L_43, L_48, L_57, L_59, L_60, L_97, L_99, L_100, L_120, L_122, L_127, L_160, L_200, L_255, L_999, L_1000, L_100000, L_1000000, L_24, L_33, L_34, L_36, L_38, L_69, L_70, L_72, L_214, L_215, L_288, L_174, L_175, L_206, LL_0, LL_1, LL_2, LL_3, LL_5, LL_9, LL_10, LL_11, LL_12, LL_19, LL_20, LL_30, LL_39, LL_60, LL_99, LL_127, LL_999, e1, e2]
    exact ⟨_, _, rfl, rfl, rfl, hR⟩
  rcases pair_cs w with ⟨w1, w2⟩ | hw
  · simp (disch := omega) only [↓reduceIte, obs, esc_il, esc_ir, leT, leF, ltT, ltF, eqT, eqF, nleT, nleF, nltT, nltF, neqT, neqF, nI_add, pk_mul, ald_nI, ast_nI, irm_nI, idv_nI, zbT, zbF, in_T, in_F1, in_F2, nI_l, sI_1, sI_2, sA_1, sA_2, subK, add0, sub0, or0, lN_add, lN_mul, L_0, L_1, L_2, L_3, L_4, L_5, L_6, L_7, L_8, L_9, L_10, L_11, L_12, L_13, L_14, L_15, L_16, L_17, L_18, L_19, L_20, L_30, L_31, L_32, L_35, L_37, L_39, L_40, L_43, L_48, L_57, L_59, L_60, L_97, L_99, L_100, L_120, L_122, L_127, L_160, L_200, L_255, L_999, L_1000, L_100000, L_1000000, L_24, L_33, L_34, L_36, L_38, L_69, L_70, L_72, L_214, L_215, L_288, L_174, L_175, L_206, LL_0, LL_1, LL_2, LL_3, LL_5, LL_9, LL_10, LL_11, LL_12, LL_19, LL_20, LL_30, LL_39, LL_60, LL_99, LL_127, LL_999, lampOk7 hv hi h1 h2 h3, lampOk8n hp hi h1 h2 h3 w2, w1]
    exact ⟨_, _, rfl, rfl, rfl, hR⟩
  have hS := sumW_le hi A (B - A + 1)
  have hS2 : sumW (frN a) A (B - A + 1) ≤ 288 := by omega
  have hX : sumW (frN a) A (B - A + 1) * (10 - v) ≤ 288 * 10 := Nat.mul_le_mul hS2 (by omega)
  obtain ⟨z, z1, z2⟩ := low_eq (X := sumW (frN a) A (B - A + 1) * (10 - v)) (Y := 10) (by omega) (by decide) (by decide) w
  have hnp : mX7_isNoPair w = some (nI 0) ∧ mX8_in w.toInt64 (lN 0) (lN 1) = some (nI 1) := by
    rcases hw with rfl | rfl
    · exact ⟨np0, np0'⟩
    · exact ⟨np1, np1'⟩
  have hm := mean22_e hp hi h2 h3
  have hff := frankFrom_e hv hi (s := A) (n := B - A + 1) (by omega)
  simp (disch := omega) only [↓reduceIte, obs, esc_il, esc_ir, leT, leF, ltT, ltF, eqT, eqF, nleT, nleF, nltT, nltF, neqT, neqF, nI_add, pk_mul, ald_nI, ast_nI, irm_nI, idv_nI, zbT, zbF, in_T, in_F1, in_F2, nI_l, sI_1, sI_2, sA_1, sA_2, subK, add0, sub0, or0, lN_add, lN_mul, L_0, L_1, L_2, L_3, L_4, L_5, L_6, L_7, L_8, L_9, L_10, L_11, L_12, L_13, L_14, L_15, L_16, L_17, L_18, L_19, L_20, L_30, L_31, L_32, L_35, L_37, L_39, L_40, L_43, L_48, L_57, L_59, L_60, L_97, L_99, L_100, L_120, L_122, L_127, L_160, L_200, L_255, L_999, L_1000, L_100000, L_1000000, L_24, L_33, L_34, L_36, L_38, L_69, L_70, L_72, L_214, L_215, L_288, L_174, L_175, L_206, LL_0, LL_1, LL_2, LL_3, LL_5, LL_9, LL_10, LL_11, LL_12, LL_19, LL_20, LL_30, LL_39, LL_60, LL_99, LL_127, LL_999, lampOk7 hv hi h1 h2 h3, lampOk8y hp hi h1 h2 h3 hnp.2, hnp.1, hff, hm, Nat.mul_comm (10 - v), z1, z2]
  exact ⟨_, _, rfl, rfl, rfl, hR⟩
/-- odds and sum of one choice t of lamps that are out -/
def lkO (v t : Nat) : Nat → Nat
  | 0 => 1
  | k + 1 => lkO v t k * (if t / 2 ^ k % 2 = 1 then v else 10 - v)
def lkS (fr : Nat → Nat) (t : Nat) : Nat → Nat
  | 0 => 0
  | k + 1 => lkS fr t k + (if t / 2 ^ k % 2 = 1 then 0 else fr k)
def wyN (v : Nat) (fr : Nat → Nat) : Nat → Nat → Nat
  | 0, s => if s = 0 then 1 else 0
  | j + 1, s => wyN v fr j s * v + (if fr j ≤ s then wyN v fr j (s - fr j) * (10 - v) else 0)
theorem wy_0 {v : Nat} {fr : Nat → Nat} (hf : ∀ k, fr k ≤ 24) : ∀ j s, 24 * j < s → wyN v fr j s = 0
  | 0, s, h => by rw [wyN, if_neg (by omega)]
  | j + 1, s, h => by
    have := hf j
    rw [wyN, wy_0 hf j s (by omega)]
    split
    · rw [wy_0 hf j _ (by omega), Nat.zero_mul, Nat.zero_mul]
    · rw [Nat.zero_mul]
theorem sumN_mul (f : Nat → Nat) (c : Nat) : ∀ n, sumN (fun s => f s * c) n = sumN f n * c
  | 0 => by rw [sumN, sumN, Nat.zero_mul]
  | n + 1 => by rw [sumN, sumN, sumN_mul f c n, Nat.add_mul]
theorem sumN_plus (f g : Nat → Nat) : ∀ n, sumN (fun s => f s + g s) n = sumN f n + sumN g n
  | 0 => rfl
  | n + 1 => by rw [sumN, sumN, sumN, sumN_plus f g n]; omega
theorem sumN_split (f : Nat → Nat) (m : Nat) : ∀ k, sumN f (m + k) = sumN f m + sumN (fun i => f (m + i)) k
  | 0 => by rw [sumN, Nat.add_zero, Nat.add_zero]
  | k + 1 => by rw [← Nat.add_assoc, sumN, sumN, sumN_split f m k, Nat.add_assoc]
theorem sumN_z {f : Nat → Nat} : ∀ n, (∀ i, i < n → f i = 0) → sumN f n = 0
  | 0, _ => rfl
  | n + 1, h => by rw [sumN, sumN_z n (fun i hi => h i (by omega)), h n (by omega)]
/-- what is shifted by f -/
theorem sumN_shift {g W : Nat → Nat} {f N : Nat} (hf : f ≤ N) (h0 : ∀ s, s < f → g s = 0) (h1 : ∀ s, s + f < N → g (f + s) = W s) (h2 : ∀ s, s < N → N ≤ s + f → W s = 0) : sumN g N = sumN W N := by
  have e1 : sumN g N = sumN (fun i => g (f + i)) (N - f) := by
    have := sumN_split g f (N - f)
    rw [show f + (N - f) = N by omega, sumN_z f (fun i hi => h0 i hi), Nat.zero_add] at this
    exact this
  have e2 : sumN W N = sumN W (N - f) := by
    have := sumN_split W (N - f) f
    rw [show N - f + f = N by omega, sumN_z (f := fun i => W (N - f + i)) f (fun i hi => h2 _ (by omega) (by omega)), Nat.add_zero] at this
    exact this
  rw [e1, e2]
  exact sumN_congr _ (fun i hi => h1 i (by omega))
theorem bit_low {t k n : Nat} (h : k < n) : (2 ^ n + t) / 2 ^ k % 2 = t / 2 ^ k % 2 := by
  obtain ⟨d, rfl⟩ : ∃ d, n = k + (d + 1) := ⟨n - k - 1, by omega⟩
  rw [Nat.pow_add, Nat.add_comm, Nat.add_mul_div_left _ _ (Nat.two_pow_pos k), Nat.pow_succ, Nat.mul_comm (2 ^ d) 2, Nat.add_mul_mod_self_left]
theorem lkO_low (v t n : Nat) : ∀ k, k ≤ n → lkO v (2 ^ n + t) k = lkO v t k
  | 0, _ => rfl
  | k + 1, h => by rw [lkO, lkO, lkO_low v t n k (by omega), bit_low (by omega)]
theorem lkS_low (fr : Nat → Nat) (t n : Nat) : ∀ k, k ≤ n → lkS fr (2 ^ n + t) k = lkS fr t k
  | 0, _ => rfl
  | k + 1, h => by rw [lkS, lkS, lkS_low fr t n k (by omega), bit_low (by omega)]
theorem sum_1 (φ : Nat → Nat) : ∀ m, sumN (fun s => φ s * if s = 0 then 1 else 0) (m + 1) = φ 0
  | 0 => by simp [sumN]
  | m + 1 => by rw [sumN, sum_1 φ m]; simp
theorem luck_main {v : Nat} {fr : Nat → Nat} (hf : ∀ k, fr k ≤ 24) : ∀ n, n ≤ 12 → ∀ φ : Nat → Nat, sumN (fun s => φ s * wyN v fr n s) 289 = sumN (fun t => φ (lkS fr t n) * lkO v t n) (2 ^ n)
  | 0, _, φ => by
    show sumN (fun s => φ s * if s = 0 then 1 else 0) (288 + 1) = _
    rw [sum_1]
    simp [sumN, lkS, lkO]
  | n + 1, hn, φ => by
    have hfn := hf n
    have ih := luck_main (v := v) hf n (by omega)
    have e1 : sumN (fun s => φ s * wyN v fr (n + 1) s) 289 = sumN (fun s => φ s * wyN v fr n s * v) 289 + sumN (fun s => φ s * (if fr n ≤ s then wyN v fr n (s - fr n) * (10 - v) else 0)) 289 := by
      rw [← sumN_plus]
      exact sumN_congr _ (fun s _ => by rw [wyN, Nat.mul_add, Nat.mul_assoc])
    have e2 : sumN (fun s => φ s * (if fr n ≤ s then wyN v fr n (s - fr n) * (10 - v) else 0)) 289 = sumN (fun s => φ (fr n + s) * wyN v fr n s * (10 - v)) 289 := by
      refine sumN_shift (f := fr n) (by omega) ?_ ?_ ?_
      · intro s hs
        show φ s * (if fr n ≤ s then _ else 0) = 0
        rw [if_neg (by omega), Nat.mul_zero]
      · intro s hs
        show φ (fr n + s) * (if fr n ≤ fr n + s then wyN v fr n (fr n + s - fr n) * (10 - v) else 0) = _
        rw [if_pos (by omega), Nat.add_sub_cancel_left, Nat.mul_assoc]
      · intro s h1 h2
        show φ (fr n + s) * wyN v fr n s * (10 - v) = 0
        rw [wy_0 hf n s (by omega), Nat.mul_zero, Nat.zero_mul]
    rw [e1, e2, sumN_mul, sumN_mul, ih φ, ih (fun s => φ (fr n + s)), Nat.pow_succ, Nat.mul_two, sumN_split, ← sumN_mul, ← sumN_mul, Nat.add_comm]
    congr 1
    · refine sumN_congr _ (fun t ht => ?_)
      have hbit : ¬ t / 2 ^ n % 2 = 1 := by rw [Nat.div_eq_of_lt ht]; decide
      rw [lkS, lkO, if_neg hbit, if_neg hbit, Nat.add_comm (fr n), Nat.mul_assoc]
    · refine sumN_congr _ (fun t ht => ?_)
      have hbit : (2 ^ n + t) / 2 ^ n % 2 = 1 := by
        rw [Nat.add_div_left _ (Nat.two_pow_pos n), Nat.div_eq_of_lt ht]
      rw [lkS, lkO, if_pos hbit, if_pos hbit, lkS_low fr t n n (Nat.le_refl _), lkO_low v t n n (Nat.le_refl _), Nat.add_zero, Nat.mul_assoc]
theorem ngd {p f : Nat} (h : p < f) (hf : f < 2 ^ 30) : (nI p - nI f < nI 0) = True := eq_true (pk_sneg hf h)
theorem am1 (x : Int32) : x + -nI 1 = x - nI 1 := (Int32.sub_eq_add_neg x (nI 1)).symm
def wn (W : Nat → Nat) (v f q : Nat) : Nat := W q * v + (if f ≤ q then W (q - f) * (10 - v) else 0)
def hlF (W : Nat → Nat) (v f : Nat) (u : Nat → Int64) (i : Nat) : Nat → Int64 := fun q => if 289 - i ≤ q ∧ q < 289 then lN (wn W v f q) else u q
theorem hlF_old {W : Nat → Nat} {v f : Nat} {u : Nat → Int64} (hu : ∀ q, q < 289 → u q = lN (W q)) {i q : Nat} (hi : i < 289) (hq : q ≤ 288 - i) : hlF W v f u i q = lN (W q) := by
  unfold hlF
  rw [if_neg (by omega)]; exact hu q (by omega)
theorem hlF_up (W : Nat → Nat) (v f : Nat) (u : Nat → Int64) {i : Nat} (hi : i < 289) : vp_updL (hlF W v f u i) (288 - i) (lN (wn W v f (288 - i))) = hlF W v f u (i + 1) := by
  funext q
  show (if q = 288 - i then _ else hlF W v f u i q) = _
  unfold hlF
  by_cases h1 : q = 288 - i
  · rw [if_pos h1, if_pos (by omega), h1]
  · rw [if_neg h1]
    by_cases h2 : 289 - i ≤ q ∧ q < 289
    · rw [if_pos h2, if_pos (by omega)]
    · rw [if_neg h2, if_neg (by omega)]
theorem hangLamp_e {u : LmS} {W : Nat → Nat} (hu : ∀ q, q < 289 → u.1 q = lN (W q)) {f v : Nat} (hf : f ≤ 24) (hv : v ≤ 10) : ∃ u', mX2_hangLamp u (nI f) (nI v) = some u' ∧ (∀ q, q < 289 → u'.1 q = lN (wn W v f q)) ∧ u'.2 = u.2 * lN 10 := by
  have hL : whO (mX2_hangLamp_l4 (nI f) (nI v)) FU (nI 288, u) = some (nI 0 - nI 1, (hlF W v f u.1 289, u.2)) := by
    refine whO_for (fun i => (nI (289 - i) - nI 1, (hlF W v f u.1 i, u.2))) 289 _ ?_ ?_ ?_ (by decide)
    · show (_, _, _) = (_, _, _)
      rw [show hlF W v f u.1 0 = u.1 from by funext q; exact if_neg (by omega)]
      rfl
    · intro i hi
      unfold mX2_hangLamp_l4
      have hidx : nI (289 - i) - nI 1 = nI (288 - i) := by rw [pk_sub (by omega), show 289 - i - 1 = 288 - i by omega]
      have hidx2 : nI (289 - (i + 1)) - nI 1 = nI (288 - i) - nI 1 := by rw [show 289 - (i + 1) = 288 - i by omega]
      simp only [hidx, hidx2]
      have hup := hlF_up W v f u.1 hi
      by_cases hfq : f ≤ 288 - i
      · have hw : wn W v f (288 - i) = W (288 - i) * v + W (288 - i - f) * (10 - v) := by unfold wn; rw [if_pos hfq]
        rw [hw] at hup
        simp (disch := omega) only [↓reduceIte, obs, esc_il, esc_ir, leT, leF, ltT, ltF, eqT, eqF, nleT, nleF, nltT, nltF, neqT, neqF, nI_add, pk_mul, ald_nI, ast_nI, irm_nI, idv_nI, zbT, zbF, in_T, in_F1, in_F2, nI_l, sI_1, sI_2, sA_1, sA_2, add0, sub0, or0, lN_add, lN_mul, L_0, L_1, L_2, L_3, L_4, L_5, L_6, L_7, L_8, L_9, L_10, L_11, L_12, L_13, L_14, L_15, L_16, L_17, L_18, L_19, L_20, L_30, L_31, L_32, L_35, L_37, L_39, L_40, L_43, L_48, L_57, L_59, L_60, L_97, L_99, L_100, L_120, L_122, L_127, L_160, L_200, L_255, L_999, L_1000, L_100000, L_1000000, L_24, L_33, L_34, L_36, L_38, L_69, L_70, L_72, L_214, L_215, L_288, L_174, L_175, L_206, LL_0, LL_1, LL_2, LL_3, LL_5, LL_9, LL_10, LL_11, LL_12, LL_19, LL_20, LL_30, LL_39, LL_60, LL_99, LL_127, LL_999, pk_sub hfq, pk_sub (show v ≤ 10 from hv), aldL_nI, astL_nI, hlF_old hu hi, am1, hup]
      · have hw : wn W v f (288 - i) = W (288 - i) * v := by unfold wn; rw [if_neg hfq, Nat.add_zero]
        rw [hw] at hup
        simp (disch := omega) only [↓reduceIte, obs, esc_il, esc_ir, leT, leF, ltT, ltF, eqT, eqF, nleT, nleF, nltT, nltF, neqT, neqF, nI_add, pk_mul, ald_nI, ast_nI, irm_nI, idv_nI, zbT, zbF, in_T, in_F1, in_F2, nI_l, sI_1, sI_2, sA_1, sA_2, add0, sub0, or0, lN_add, lN_mul, L_0, L_1, L_2, L_3, L_4, L_5, L_6, L_7, L_8, L_9, L_10, L_11, L_12, L_13, L_14, L_15, L_16, L_17, L_18, L_19, L_20, L_30, L_31, L_32, L_35, L_37, L_39, L_40, L_43, L_48, L_57, L_59, L_60, L_97, L_99, L_100, L_120, L_122, L_127, L_160, L_200, L_255, L_999, L_1000, L_100000, L_1000000, L_24, L_33, L_34, L_36, L_38, L_69, L_70, L_72, L_214, L_215, L_288, L_174, L_175, L_206, LL_0, LL_1, LL_2, LL_3, LL_5, LL_9, LL_10, LL_11, LL_12, LL_19, LL_20, LL_30, LL_39, LL_60, LL_99, LL_127, LL_999, ngd, aldL_nI, astL_nI, hlF_old hu hi, am1, laddz, Nat.add_zero, hup]
    · show mX2_hangLamp_l4 (nI f) (nI v) (nI 0 - nI 1, _) = _
      unfold mX2_hangLamp_l4
      rw [if_pos (show nI 0 - nI 1 < 0 by decide)]
  refine ⟨(hlF W v f u.1 289, u.2 * lN 10), ?_, ?_, rfl⟩
  · unfold mX2_hangLamp
    rw [L_288, hL, obs]
    rfl
  · intro q hq
    exact if_pos (by omega)
theorem reckonL_e {u : LmS} {h : GS} {a : AH} (hv : HV h a) (hi : HI a) {v A B : Nat} (h1 : v ≤ 10) (h2 : A ≤ B) (h3 : B < a.2 6) : ∃ u', mX2_reckon u h (nI v) (nI A) (nI B) = some u' ∧ (∀ q, q < 289 → u'.1 q = lN (wyN v (fun k => frN a (A + k)) (B - A + 1) q)) ∧ u'.2 = lN (10 ^ (B - A + 1)) := by
  have hb := hi.nb
  have hL : ∃ x, whO (mX2_reckon_l28 h (nI v) (nI A) (nI B)) FU (nI 0, (vp_updL (fun j => if j < 289 then 0 else u.1 j) 0 1, 1)) = some x ∧ ((∀ q, q < 289 → x.2.1 q = lN (wyN v (fun k => frN a (A + k)) (B - A + 1) q)) ∧ x.2.2 = lN (10 ^ (B - A + 1))) := by
    refine whO_inv (fun (i : Nat) (s : Int32 × LmS) => ∃ u', s = (nI i, u') ∧ (∀ q, q < 289 → u'.1 q = lN (wyN v (fun k => frN a (A + k)) (min i (B + 1) - A) q)) ∧ u'.2 = lN (10 ^ (min i (B + 1) - A))) 12 _ ?_ ?_ _ ⟨_, rfl, ?_, ?_⟩ (by decide)
    · rintro i s hlt ⟨u', rfl, e1, e2⟩
      left
      unfold mX2_reckon_l28
      by_cases c1 : i < A
      · refine ⟨(nI (i + 1), u'), ?_, u', rfl, ?_, ?_⟩
        · simp (disch := omega) only [↓reduceIte, obs, esc_il, esc_ir, leT, leF, ltT, ltF, eqT, eqF, nleT, nleF, nltT, nltF, neqT, neqF, nI_add, pk_mul, ald_nI, ast_nI, irm_nI, idv_nI, zbT, zbF, in_T, in_F1, in_F2, nI_l, sI_1, sI_2, sA_1, sA_2, subK, add0, sub0, or0, lN_add, lN_mul, L_0, L_1, L_2, L_3, L_4, L_5, L_6, L_7, L_8, L_9, L_10, L_11, L_12, L_13, L_14, L_15, L_16, L_17, L_18, L_19, L_20, L_30, L_31, L_32, L_35, L_37, L_39, L_40, L_43, L_48, L_57, L_59, L_60, L_97, L_99, L_100, L_120, L_122, L_127, L_160, L_200, L_255, L_999, L_1000, L_100000, L_1000000, L_24, L_33, L_34, L_36, L_38, L_69, L_70, L_72, L_214, L_215, L_288, L_174, L_175, L_206, LL_0, LL_1, LL_2, LL_3, LL_5, LL_9, LL_10, LL_11, LL_12, LL_19, LL_20, LL_30, LL_39, LL_60, LL_99, LL_127, LL_999]
        · rw [show min (i + 1) (B + 1) - A = min i (B + 1) - A by omega]; exact e1
        · rw [show min (i + 1) (B + 1) - A = min i (B + 1) - A by omega]; exact e2
      · by_cases c2 : B < i
        · refine ⟨(nI (i + 1), u'), ?_, u', rfl, ?_, ?_⟩
          · simp (disch := omega) only [↓reduceIte, obs, esc_il, esc_ir, leT, leF, ltT, ltF, eqT, eqF, nleT, nleF, nltT, nltF, neqT, neqF, nI_add, pk_mul, ald_nI, ast_nI, irm_nI, idv_nI, zbT, zbF, in_T, in_F1, in_F2, nI_l, sI_1, sI_2, sA_1, sA_2, subK, add0, sub0, or0, lN_add, lN_mul, L_0, L_1, L_2, L_3, L_4, L_5, L_6, L_7, L_8, L_9, L_10, L_11, L_12, L_13, L_14, L_15, L_16, L_17, L_18, L_19, L_20, L_30, L_31, L_32, L_35, L_37, L_39, L_40, L_43, L_48, L_57, L_59, L_60, L_97, L_99, L_100, L_120, L_122, L_127, L_160, L_200, L_255, L_999, L_1000, L_100000, L_1000000, L_24, L_33, L_34, L_36, L_38, L_69, L_70, L_72, L_214, L_215, L_288, L_174, L_175, L_206, LL_0, LL_1, LL_2, LL_3, LL_5, LL_9, LL_10, LL_11, LL_12, LL_19, LL_20, LL_30, LL_39, LL_60, LL_99, LL_127, LL_999]
          · rw [show min (i + 1) (B + 1) - A = min i (B + 1) - A by omega]; exact e1
          · rw [show min (i + 1) (B + 1) - A = min i (B + 1) - A by omega]; exact e2
        · obtain ⟨u2, k1, k2, k3⟩ := hangLamp_e e1 (frN_le hi i) h1
          refine ⟨(nI (i + 1), u2), ?_, u2, rfl, ?_, ?_⟩
          · simp (disch := omega) only [↓reduceIte, obs, esc_il, esc_ir, leT, leF, ltT, ltF, eqT, eqF, nleT, nleF, nltT, nltF, neqT, neqF, nI_add, pk_mul, ald_nI, ast_nI, irm_nI, idv_nI, zbT, zbF, in_T, in_F1, in_F2, nI_l, sI_1, sI_2, sA_1, sA_2, subK, add0, sub0, or0, lN_add, lN_mul, L_0, L_1, L_2, L_3, L_4, L_5, L_6, L_7, L_8, L_9, L_10, L_11, L_12, L_13, L_14, L_15, L_16, L_17, L_18, L_19, L_20, L_30, L_31, L_32, L_35, L_37, L_39, L_40, L_43, L_48, L_57, L_59, L_60, L_97, L_99, L_100, L_120, L_122, L_127, L_160, L_200, L_255, L_999, L_1000, L_100000, L_1000000, L_24, L_33, L_34, L_36, L_38, L_69, L_70, L_72, L_214, L_215, L_288, L_174, L_175, L_206, LL_0, LL_1, LL_2, LL_3, LL_5, LL_9, LL_10, LL_11, LL_12, LL_19, LL_20, LL_30, LL_39, LL_60, LL_99, LL_127, LL_999, frankAt_e hv hi, k1]
          · intro q hq
            rw [k2 q hq, show min (i + 1) (B + 1) - A = (min i (B + 1) - A) + 1 by omega, wyN, show A + (min i (B + 1) - A) = i by omega]
            rfl
          · rw [k3, e2, show min (i + 1) (B + 1) - A = (min i (B + 1) - A) + 1 by omega, lN_mul, Nat.pow_succ]
    · rintro s ⟨u', rfl, e1, e2⟩
      refine ⟨(nI 12, u'), ?_, ?_⟩
      · unfold mX2_reckon_l28
        simp (disch := omega) only [↓reduceIte, obs, esc_il, esc_ir, leT, leF, ltT, ltF, eqT, eqF, nleT, nleF, nltT, nltF, neqT, neqF, nI_add, pk_mul, ald_nI, ast_nI, irm_nI, idv_nI, zbT, zbF, in_T, in_F1, in_F2, nI_l, sI_1, sI_2, sA_1, sA_2, subK, add0, sub0, or0, lN_add, lN_mul, L_0, L_1, L_2, L_3, L_4, L_5, L_6, L_7, L_8, L_9, L_10, L_11, L_12, L_13, L_14, L_15, L_16, L_17, L_18, L_19, L_20, L_30, L_31, L_32, L_35, L_37, L_39, L_40, L_43, L_48, L_57, L_59, L_60, L_97, L_99, L_100, L_120, L_122, L_127, L_160, L_200, L_255, L_999, L_1000, L_100000, L_1000000, L_24, L_33, L_34, L_36, L_38, L_69, L_70, L_72, L_214, L_215, L_288, L_174, L_175, L_206, LL_0, LL_1, LL_2, LL_3, LL_5, LL_9, LL_10, LL_11, LL_12, LL_19, LL_20, LL_30, LL_39, LL_60, LL_99, LL_127, LL_999]
      · rw [show min 12 (B + 1) - A = B - A + 1 by omega] at e1 e2
        exact ⟨e1, e2⟩
    · intro q hq
      rw [show min 0 (B + 1) - A = 0 by omega, wyN]
      show (if q = 0 then (1 : Int64) else if q < 289 then 0 else u.1 q) = _
      by_cases h0 : q = 0
      · rw [if_pos h0, if_pos h0]; rfl
      · rw [if_neg h0, if_neg h0, if_pos hq]; rfl
    · rw [show min 0 (B + 1) - A = 0 by omega]; rfl
  obtain ⟨x, x1, x2, x3⟩ := hL
  refine ⟨x.2, ?_, x2, x3⟩
  unfold mX2_reckon
  rw [fill_l _ 289 _ (by decide), obs, L_0, astL_nI (by decide) (by decide), obs]
  show Option.bind (whO (mX2_reckon_l28 h (nI v) (nI A) (nI B)) FU (nI 0, (vp_updL (fun j => if j < 289 then 0 else u.1 j) 0 1, 1))) _ = _
  rw [x1, obs]
theorem odds_e {u : LmS} {W : Nat → Nat} (hu : ∀ q, q < 289 → u.1 q = lN (W q)) {w : Nat} (hw : w ≤ 999) : mX2_oddsOf u (nI w) = some (lN (sumN (fun s => (if w ≤ s then 1 else 0) * W s) 289)) := by
  unfold mX2_oddsOf
  rw [whO_for (fun i => (lN (sumN (fun s => (if w ≤ s then 1 else 0) * W s) i), nI i)) 289 (lN (sumN (fun s => (if w ≤ s then 1 else 0) * W s) 289), nI 289) (by rfl) ?_ ?_ (by decide)]
  · rfl
  · intro i hi
    unfold mX2_oddsOf_l5
    rw [sumN]
    by_cases hc : i < w
    · have e : (if w ≤ i then 1 else 0) * W i = 0 := by rw [if_neg (by omega), Nat.zero_mul]
      rw [e, Nat.add_zero]
      simp (disch := omega) only [↓reduceIte, obs, esc_il, esc_ir, leT, leF, ltT, ltF, eqT, eqF, nleT, nleF, nltT, nltF, neqT, neqF, nI_add, pk_mul, ald_nI, ast_nI, irm_nI, idv_nI, zbT, zbF, in_T, in_F1, in_F2, nI_l, sI_1, sI_2, sA_1, sA_2, subK, add0, sub0, or0, lN_add, lN_mul, L_0, L_1, L_2, L_3, L_4, L_5, L_6, L_7, L_8, L_9, L_10, L_11, L_12, L_13, L_14, L_15, L_16, L_17, L_18, L_19, L_20, L_30, L_31, L_32, L_35, L_37, L_39, L_40, L_43, L_48, L_57, L_59, L_60, L_97, L_99, L_100, L_120, L_122, L_127, L_160, L_200, L_255, L_999, L_1000, L_100000, L_1000000, L_24, L_33, L_34, L_36, L_38, L_69, L_70, L_72, L_214, L_215, L_288, L_174, L_175, L_206, LL_0, LL_1, LL_2, LL_3, LL_5, LL_9, LL_10, LL_11, LL_12, LL_19, LL_20, LL_30, LL_39, LL_60, LL_99, LL_127, LL_999]
    · have e : (if w ≤ i then 1 else 0) * W i = W i := by rw [if_pos (by omega), Nat.one_mul]
      rw [e]
      simp (disch := omega) only [↓reduceIte, obs, esc_il, esc_ir, leT, leF, ltT, ltF, eqT, eqF, nleT, nleF, nltT, nltF, neqT, neqF, nI_add, pk_mul, ald_nI, ast_nI, irm_nI, idv_nI, zbT, zbF, in_T, in_F1, in_F2, nI_l, sI_1, sI_2, sA_1, sA_2, subK, add0, sub0, or0, lN_add, lN_mul, L_0, L_1, L_2, L_3, L_4, L_5, L_6, L_7, L_8, L_9, L_10, L_11, L_12, L_13, L_14, L_15, L_16, L_17, L_18, L_19, L_20, L_30, L_31, L_32, L_35, L_37, L_39, L_40, L_43, L_48, L_57, L_59, L_60, L_97, L_99, L_100, L_120, L_122, L_127, L_160, L_200, L_255, L_999, L_1000, L_100000, L_1000000, L_24, L_33, L_34, L_36, L_38, L_69, L_70, L_72, L_214, L_215, L_288, L_174, L_175, L_206, LL_0, LL_1, LL_2, LL_3, LL_5, LL_9, LL_10, LL_11, LL_12, LL_19, LL_20, LL_30, LL_39, LL_60, LL_99, LL_127, LL_999, aldL_nI, hu]
  · unfold mX2_oddsOf_l5
    simp (disch := omega) only [↓reduceIte, obs, esc_il, esc_ir, leT, leF, ltT, ltF, eqT, eqF, nleT, nleF, nltT, nltF, neqT, neqF, nI_add, pk_mul, ald_nI, ast_nI, irm_nI, idv_nI, zbT, zbF, in_T, in_F1, in_F2, nI_l, sI_1, sI_2, sA_1, sA_2, subK, add0, sub0, or0, lN_add, lN_mul, L_0, L_1, L_2, L_3, L_4, L_5, L_6, L_7, L_8, L_9, L_10, L_11, L_12, L_13, L_14, L_15, L_16, L_17, L_18, L_19, L_20, L_30, L_31, L_32, L_35, L_37, L_39, L_40, L_43, L_48, L_57, L_59, L_60, L_97, L_99, L_100, L_120, L_122, L_127, L_160, L_200, L_255, L_999, L_1000, L_100000, L_1000000, L_24, L_33, L_34, L_36, L_38, L_69, L_70, L_72, L_214, L_215, L_288, L_174, L_175, L_206, LL_0, LL_1, LL_2, LL_3, LL_5, LL_9, LL_10, LL_11, LL_12, LL_19, LL_20, LL_30, LL_39, LL_60, LL_99, LL_127, LL_999]
theorem luck45_e {A B : Nat} (h2 : A ≤ B) (h3 : B < 12) : whO (mX8_luck_l45 (nI A) (nI B)) FU (lN 1, nI 0) = some (lN (10 ^ (B - A + 1)), nI (B - A + 1)) := by
  refine whO_for (fun i => (lN (10 ^ i), nI i)) (B - A + 1) _ (by rfl) ?_ ?_ (by omega)
  · intro i hi
    unfold mX8_luck_l45
    simp (disch := omega) only [↓reduceIte, obs, esc_il, esc_ir, leT, leF, ltT, ltF, eqT, eqF, nleT, nleF, nltT, nltF, neqT, neqF, nI_add, pk_mul, ald_nI, ast_nI, irm_nI, idv_nI, zbT, zbF, in_T, in_F1, in_F2, nI_l, sI_1, sI_2, sA_1, sA_2, subK, add0, sub0, or0, lN_add, lN_mul, L_0, L_1, L_2, L_3, L_4, L_5, L_6, L_7, L_8, L_9, L_10, L_11, L_12, L_13, L_14, L_15, L_16, L_17, L_18, L_19, L_20, L_30, L_31, L_32, L_35, L_37, L_39, L_40, L_43, L_48, L_57, L_59, L_60, L_97, L_99, L_100, L_120, L_122, L_127, L_160, L_200, L_255, L_999, L_1000, L_100000, L_1000000, L_24, L_33, L_34, L_36, L_38, L_69, L_70, L_72, L_214, L_215, L_288, L_174, L_175, L_206, LL_0, LL_1, LL_2, LL_3, LL_5, LL_9, LL_10, LL_11, LL_12, LL_19, LL_20, LL_30, LL_39, LL_60, LL_99, LL_127, LL_999, Nat.pow_succ]
  · unfold mX8_luck_l45
    simp (disch := omega) only [↓reduceIte, obs, esc_il, esc_ir, leT, leF, ltT, ltF, eqT, eqF, nleT, nleF, nltT, nltF, neqT, neqF, nI_add, pk_mul, ald_nI, ast_nI, irm_nI, idv_nI, zbT, zbF, in_T, in_F1, in_F2, nI_l, sI_1, sI_2, sA_1, sA_2, subK, add0, sub0, or0, lN_add, lN_mul, L_0, L_1, L_2, L_3, L_4, L_5, L_6, L_7, L_8, L_9, L_10, L_11, L_12, L_13, L_14, L_15, L_16, L_17, L_18, L_19, L_20, L_30, L_31, L_32, L_35, L_37, L_39, L_40, L_43, L_48, L_57, L_59, L_60, L_97, L_99, L_100, L_120, L_122, L_127, L_160, L_200, L_255, L_999, L_1000, L_100000, L_1000000, L_24, L_33, L_34, L_36, L_38, L_69, L_70, L_72, L_214, L_215, L_288, L_174, L_175, L_206, LL_0, LL_1, LL_2, LL_3, LL_5, LL_9, LL_10, LL_11, LL_12, LL_19, LL_20, LL_30, LL_39, LL_60, LL_99, LL_127, LL_999]
theorem luck87_e {M : GS} {a : AH} (hp : PV (M.1 0) 0 a) (hi : HI a) {v A B : Nat} (h1 : v ≤ 10) (h2 : A ≤ B) (h3 : B < a.2 6) {t : Nat} (ht : t < 4096) (x : Int64) : whO (mX8_luck_l87 M (nI v) (nI A) (nI B) (x, nI t)) FU (lN 1, nI 0, nI 0) = some (lN (lkO v t (B - A + 1)), nI (lkS (fun k => frN a (A + k)) t (B - A + 1)), nI (B - A + 1)) := by
  have hb := hi.nb
  refine whO_for (fun k => (lN (lkO v t k), nI (lkS (fun k => frN a (A + k)) t k), nI k)) (B - A + 1) _ (by rfl) ?_ ?_ (by omega)
  · intro k hk
    have hbit := bit_nI (b := t) (i := k) (by omega) (by omega)
    have e31 : (31 : Int32) = nI 31 := rfl
    unfold mX8_luck_l87
    rw [lkO, lkS]
    by_cases hc : t / 2 ^ k % 2 = 1
    · rw [hc] at hbit
      rw [if_pos hc, if_pos hc, Nat.add_zero]
      simp (disch := omega) only [↓reduceIte, obs, esc_il, esc_ir, leT, leF, ltT, ltF, eqT, eqF, nleT, nleF, nltT, nltF, neqT, neqF, nI_add, pk_mul, ald_nI, ast_nI, irm_nI, idv_nI, zbT, zbF, in_T, in_F1, in_F2, nI_l, sI_1, sI_2, sA_1, sA_2, subK, add0, sub0, or0, lN_add, lN_mul, L_0, L_1, L_2, L_3, L_4, L_5, L_6, L_7, L_8, L_9, L_10, L_11, L_12, L_13, L_14, L_15, L_16, L_17, L_18, L_19, L_20, L_30, L_31, L_32, L_35, L_37, L_39, L_40, L_43, L_48, L_57, L_59, L_60, L_97, L_99, L_100, L_120, L_122, L_127, L_160, L_200, L_255, L_999, L_1000, L_100000, L_1000000, L_24, L_33, L_34, L_36, L_38, L_69, L_70, L_72, L_214, L_215, L_288, L_174, L_175, L_206, LL_0, LL_1, LL_2, LL_3, LL_5, LL_9, LL_10, LL_11, LL_12, LL_19, LL_20, LL_30, LL_39, LL_60, LL_99, LL_127, LL_999, e31, hbit]
    · have h0 : t / 2 ^ k % 2 = 0 := by omega
      rw [h0] at hbit
      rw [if_neg hc, if_neg hc]
      simp (disch := omega) only [↓reduceIte, obs, esc_il, esc_ir, leT, leF, ltT, ltF, eqT, eqF, nleT, nleF, nltT, nltF, neqT, neqF, nI_add, pk_mul, ald_nI, ast_nI, irm_nI, idv_nI, zbT, zbF, in_T, in_F1, in_F2, nI_l, sI_1, sI_2, sA_1, sA_2, subK, add0, sub0, or0, lN_add, lN_mul, L_0, L_1, L_2, L_3, L_4, L_5, L_6, L_7, L_8, L_9, L_10, L_11, L_12, L_13, L_14, L_15, L_16, L_17, L_18, L_19, L_20, L_30, L_31, L_32, L_35, L_37, L_39, L_40, L_43, L_48, L_57, L_59, L_60, L_97, L_99, L_100, L_120, L_122, L_127, L_160, L_200, L_255, L_999, L_1000, L_100000, L_1000000, L_24, L_33, L_34, L_36, L_38, L_69, L_70, L_72, L_214, L_215, L_288, L_174, L_175, L_206, LL_0, LL_1, LL_2, LL_3, LL_5, LL_9, LL_10, LL_11, LL_12, LL_19, LL_20, LL_30, LL_39, LL_60, LL_99, LL_127, LL_999, e31, hbit, frankOn_e hp (by decide) hi]
  · unfold mX8_luck_l87
    simp (disch := omega) only [↓reduceIte, obs, esc_il, esc_ir, leT, leF, ltT, ltF, eqT, eqF, nleT, nleF, nltT, nltF, neqT, neqF, nI_add, pk_mul, ald_nI, ast_nI, irm_nI, idv_nI, zbT, zbF, in_T, in_F1, in_F2, nI_l, sI_1, sI_2, sA_1, sA_2, subK, add0, sub0, or0, lN_add, lN_mul, L_0, L_1, L_2, L_3, L_4, L_5, L_6, L_7, L_8, L_9, L_10, L_11, L_12, L_13, L_14, L_15, L_16, L_17, L_18, L_19, L_20, L_30, L_31, L_32, L_35, L_37, L_39, L_40, L_43, L_48, L_57, L_59, L_60, L_97, L_99, L_100, L_120, L_122, L_127, L_160, L_200, L_255, L_999, L_1000, L_100000, L_1000000, L_24, L_33, L_34, L_36, L_38, L_69, L_70, L_72, L_214, L_215, L_288, L_174, L_175, L_206, LL_0, LL_1, LL_2, LL_3, LL_5, LL_9, LL_10, LL_11, LL_12, LL_19, LL_20, LL_30, LL_39, LL_60, LL_99, LL_127, LL_999]
theorem lkS_le {fr : Nat → Nat} (hf : ∀ k, fr k ≤ 24) (t : Nat) : ∀ n, lkS fr t n ≤ 24 * n
  | 0 => Nat.le_refl _
  | n + 1 => by
    have := lkS_le hf t n
    have := hf n
    rw [lkS]
    split <;> omega
theorem lkO_le {v : Nat} (hv : v ≤ 10) (t : Nat) : ∀ n, lkO v t n ≤ 10 ^ n
  | 0 => Nat.le_refl _
  | n + 1 => by
    have := lkO_le hv t n
    rw [lkO, Nat.pow_succ]
    exact Nat.mul_le_mul this (by split <;> omega)
theorem p2_4096 {n : Nat} (h : n ≤ 12) : 2 ^ n ≤ 4096 := Nat.pow_le_pow_right (by decide) h
theorem p10_12 {n : Nat} (h : n ≤ 12) : 10 ^ n ≤ 1000000000000 := show 10 ^ n ≤ 10 ^ 12 from Nat.pow_le_pow_right (by decide) h
theorem luck69_e {M : GS} {a : AH} (hp : PV (M.1 0) 0 a) (hi : HI a) {v A B w : Nat} (h1 : v ≤ 10) (h2 : A ≤ B) (h3 : B < a.2 6) (hw : w ≤ 999) : whO (mX8_luck_l69 M (nI v) (nI A) (nI B) (nI w)) FU (lN 0, nI 0) = some (lN (sumN (fun t => (if w ≤ lkS (fun k => frN a (A + k)) t (B - A + 1) then 1 else 0) * lkO v t (B - A + 1)) (2 ^ (B - A + 1))), nI (2 ^ (B - A + 1))) := by
  have hb := hi.nb
  have h4 := p2_4096 (show B - A + 1 ≤ 12 by omega)
  have hsh : nI 1 <<< (nI (B - A + 1) &&& nI 31) = nI (2 ^ (B - A + 1)) := one_shl (by omega)
  have e31 : (31 : Int32) = nI 31 := rfl
  refine whO_for (fun i => (lN (sumN (fun t => (if w ≤ lkS (fun k => frN a (A + k)) t (B - A + 1) then 1 else 0) * lkO v t (B - A + 1)) i), nI i)) (2 ^ (B - A + 1)) _ (by rfl) ?_ ?_ (by omega)
  · intro t ht
    have hin := luck87_e hp hi h1 h2 h3 (t := t) (by omega)
    have hS := lkS_le (fr := fun k => frN a (A + k)) (fun k => frN_le hi (A + k)) t (B - A + 1)
    unfold mX8_luck_l69
    rw [sumN]
    by_cases hc : w ≤ lkS (fun k => frN a (A + k)) t (B - A + 1)
    · have e : (if w ≤ lkS (fun k => frN a (A + k)) t (B - A + 1) then 1 else 0) * lkO v t (B - A + 1) = lkO v t (B - A + 1) := by rw [if_pos hc, Nat.one_mul]
      rw [e]
      simp (disch := omega) only [↓reduceIte, obs, esc_il, esc_ir, leT, leF, ltT, ltF, eqT, eqF, nleT, nleF, nltT, nltF, neqT, neqF, nI_add, pk_mul, ald_nI, ast_nI, irm_nI, idv_nI, zbT, zbF, in_T, in_F1, in_F2, nI_l, sI_1, sI_2, sA_1, sA_2, subK, add0, sub0, or0, lN_add, lN_mul, L_0, L_1, L_2, L_3, L_4, L_5, L_6, L_7, L_8, L_9, L_10, L_11, L_12, L_13, L_14, L_15, L_16, L_17, L_18, L_19, L_20, L_30, L_31, L_32, L_35, L_37, L_39, L_40, L_43, L_48, L_57, L_59, L_60, L_97, L_99, L_100, L_120, L_122, L_127, L_160, L_200, L_255, L_999, L_1000, L_100000, L_1000000, L_24, L_33, L_34, L_36, L_38, L_69, L_70, L_72, L_214, L_215, L_288, L_174, L_175, L_206, LL_0, LL_1, LL_2, LL_3, LL_5, LL_9, LL_10, LL_11, LL_12, LL_19, LL_20, LL_30, LL_39, LL_60, LL_99, LL_127, LL_999, e31, hsh, hin]
    · have e : (if w ≤ lkS (fun k => frN a (A + k)) t (B - A + 1) then 1 else 0) * lkO v t (B - A + 1) = 0 := by rw [if_neg hc, Nat.zero_mul]
      rw [e]
      simp (disch := omega) only [↓reduceIte, obs, esc_il, esc_ir, leT, leF, ltT, ltF, eqT, eqF, nleT, nleF, nltT, nltF, neqT, neqF, nI_add, pk_mul, ald_nI, ast_nI, irm_nI, idv_nI, zbT, zbF, in_T, in_F1, in_F2, nI_l, sI_1, sI_2, sA_1, sA_2, subK, add0, sub0, or0, lN_add, lN_mul, L_0, L_1, L_2, L_3, L_4, L_5, L_6, L_7, L_8, L_9, L_10, L_11, L_12, L_13, L_14, L_15, L_16, L_17, L_18, L_19, L_20, L_30, L_31, L_32, L_35, L_37, L_39, L_40, L_43, L_48, L_57, L_59, L_60, L_97, L_99, L_100, L_120, L_122, L_127, L_160, L_200, L_255, L_999, L_1000, L_100000, L_1000000, L_24, L_33, L_34, L_36, L_38, L_69, L_70, L_72, L_214, L_215, L_288, L_174, L_175, L_206, LL_0, LL_1, LL_2, LL_3, LL_5, LL_9, LL_10, LL_11, LL_12, LL_19, LL_20, LL_30, LL_39, LL_60, LL_99, LL_127, LL_999, e31, hsh, hin, laddz, Nat.add_zero]
  · unfold mX8_luck_l69
    simp (disch := omega) only [↓reduceIte, obs, esc_il, esc_ir, leT, leF, ltT, ltF, eqT, eqF, nleT, nleF, nltT, nltF, neqT, neqF, nI_add, pk_mul, ald_nI, ast_nI, irm_nI, idv_nI, zbT, zbF, in_T, in_F1, in_F2, nI_l, sI_1, sI_2, sA_1, sA_2, subK, add0, sub0, or0, lN_add, lN_mul, L_0, L_1, L_2, L_3, L_4, L_5, L_6, L_7, L_8, L_9, L_10, L_11, L_12, L_13, L_14, L_15, L_16, L_17, L_18, L_19, L_20, L_30, L_31, L_32, L_35, L_37, L_39, L_40, L_43, L_48, L_57, L_59, L_60, L_97, L_99, L_100, L_120, L_122, L_127, L_160, L_200, L_255, L_999, L_1000, L_100000, L_1000000, L_24, L_33, L_34, L_36, L_38, L_69, L_70, L_72, L_214, L_215, L_288, L_174, L_175, L_206, LL_0, LL_1, LL_2, LL_3, LL_5, LL_9, LL_10, LL_11, LL_12, LL_19, LL_20, LL_30, LL_39, LL_60, LL_99, LL_127, LL_999, e31, hsh]
theorem st_luck {F : FS} {M : GS} (hR : Rel F M) (x : Int32) (i : Int32) (j : Int32) (y : Int32) (w : Int32) : ∃ (o : Int64 × LmS) (o' : Int64), mX7_luck (F.1 0) F.2.2 x i j y w = some o ∧ mX8_luck M x i j y w = some o' ∧ o.1 = o' ∧ Rel (F.1, F.2.1, o.2) M := by
  obtain ⟨⟨a, hv, hp, hi, hy⟩, -⟩ := id hR
  have hb := hi.nb
  have hall : ∀ u : LmS, Rel (F.1, F.2.1, u) M := fun u => hR
  unfold mX7_luck mX8_luck
  rcases lamp_cs hv hp hi x i j with ⟨e1, e2⟩ | ⟨v, A, B, h1, h2, h3, rfl, rfl, rfl⟩
  · simp (disch := omega) only [↓reduceIte, obs, esc_il, esc_ir, leT, leF, ltT, ltF, eqT, eqF, nleT, nleF, nltT, nltF, neqT, neqF, nI_add, pk_mul, ald_nI, ast_nI, irm_nI, idv_nI, zbT, zbF, in_T, in_F1, in_F2, nI_l, sI_1, sI_2, sA_1, sA_2, subK, add0, sub0, or0, lN_add, lN_mul, L_0, L_1, L_2, L_3, L_4, L_5, L_6, L_7, L_8, L_9, L_10, L_11, L_12, L_13, L_14, L_15, L_16, L_17, L_18, L_19, L_20, L_30, L_31, L_32, L_35, L_37, L_39, L_40, L_43, L_48, L_57, L_59, L_60, L_97, L_99, L_100, L_120, L_122, L_127, L_160, L_200, L_255, L_999, L_1000, L_100000, L_1000000, L_24, L_33, L_34, L_36, L_38, L_69, L_70, L_72, L_214, L_215, L_288, L_174, L_175, L_206, LL_0, LL_1, LL_2, LL_3, LL_5, LL_9, LL_10, LL_11, LL_12, LL_19, LL_20, LL_30, LL_39, LL_60, LL_99, LL_127, LL_999, e1, e2]
    exact ⟨_, _, rfl, rfl, rfl, hall _⟩
  rcases pair_cs w with ⟨w1, w2⟩ | hw
  · rcases cs2 y with h | ⟨q, hq, rfl⟩
    · simp (disch := omega) only [↓reduceIte, obs, esc_il, esc_ir, leT, leF, ltT, ltF, eqT, eqF, nleT, nleF, nltT, nltF, neqT, neqF, nI_add, pk_mul, ald_nI, ast_nI, irm_nI, idv_nI, zbT, zbF, in_T, in_F1, in_F2, nI_l, sI_1, sI_2, sA_1, sA_2, subK, add0, sub0, or0, lN_add, lN_mul, L_0, L_1, L_2, L_3, L_4, L_5, L_6, L_7, L_8, L_9, L_10, L_11, L_12, L_13, L_14, L_15, L_16, L_17, L_18, L_19, L_20, L_30, L_31, L_32, L_35, L_37, L_39, L_40, L_43, L_48, L_57, L_59, L_60, L_97, L_99, L_100, L_120, L_122, L_127, L_160, L_200, L_255, L_999, L_1000, L_100000, L_1000000, L_24, L_33, L_34, L_36, L_38, L_69, L_70, L_72, L_214, L_215, L_288, L_174, L_175, L_206, LL_0, LL_1, LL_2, LL_3, LL_5, LL_9, LL_10, LL_11, LL_12, LL_19, LL_20, LL_30, LL_39, LL_60, LL_99, LL_127, LL_999, lampOk7 hv hi h1 h2 h3, lampOk8n hp hi h1 h2 h3 w2, w1, ngLt h, ngLe h, ngGe h, ngGt h, ngEq h, ngEq' h, in_ng h, zb_ng h]
      exact ⟨_, _, rfl, rfl, rfl, hall _⟩
    by_cases hq2 : q ≤ 999
    · simp (disch := omega) only [↓reduceIte, obs, esc_il, esc_ir, leT, leF, ltT, ltF, eqT, eqF, nleT, nleF, nltT, nltF, neqT, neqF, nI_add, pk_mul, ald_nI, ast_nI, irm_nI, idv_nI, zbT, zbF, in_T, in_F1, in_F2, nI_l, sI_1, sI_2, sA_1, sA_2, subK, add0, sub0, or0, lN_add, lN_mul, L_0, L_1, L_2, L_3, L_4, L_5, L_6, L_7, L_8, L_9, L_10, L_11, L_12, L_13, L_14, L_15, L_16, L_17, L_18, L_19, L_20, L_30, L_31, L_32, L_35, L_37, L_39, L_40, L_43, L_48, L_57, L_59, L_60, L_97, L_99, L_100, L_120, L_122, L_127, L_160, L_200, L_255, L_999, L_1000, L_100000, L_1000000, L_24, L_33, L_34, L_36, L_38, L_69, L_70, L_72, L_214, L_215, L_288, L_174, L_175, L_206, LL_0, LL_1, LL_2, LL_3, LL_5, LL_9, LL_10, LL_11, LL_12, LL_19, LL_20, LL_30, LL_39, LL_60, LL_99, LL_127, LL_999, lampOk7 hv hi h1 h2 h3, lampOk8n hp hi h1 h2 h3 w2, w1]
      exact ⟨_, _, rfl, rfl, rfl, hall _⟩
    · simp (disch := omega) only [↓reduceIte, obs, esc_il, esc_ir, leT, leF, ltT, ltF, eqT, eqF, nleT, nleF, nltT, nltF, neqT, neqF, nI_add, pk_mul, ald_nI, ast_nI, irm_nI, idv_nI, zbT, zbF, in_T, in_F1, in_F2, nI_l, sI_1, sI_2, sA_1, sA_2, subK, add0, sub0, or0, lN_add, lN_mul, L_0, L_1, L_2, L_3, L_4, L_5, L_6, L_7, L_8, L_9, L_10, L_11, L_12, L_13, L_14, L_15, L_16, L_17, L_18, L_19, L_20, L_30, L_31, L_32, L_35, L_37, L_39, L_40, L_43, L_48, L_57, L_59, L_60, L_97, L_99, L_100, L_120, L_122, L_127, L_160, L_200, L_255, L_999, L_1000, L_100000, L_1000000, L_24, L_33, L_34, L_36, L_38, L_69, L_70, L_72, L_214, L_215, L_288, L_174, L_175, L_206, LL_0, LL_1, LL_2, LL_3, LL_5, LL_9, LL_10, LL_11, LL_12, LL_19, LL_20, LL_30, LL_39, LL_60, LL_99, LL_127, LL_999, lampOk7 hv hi h1 h2 h3, lampOk8n hp hi h1 h2 h3 w2, w1]
      exact ⟨_, _, rfl, rfl, rfl, hall _⟩
  have hnp : mX7_isNoPair w = some (nI 0) ∧ mX8_in w.toInt64 (lN 0) (lN 1) = some (nI 1) := by
    rcases hw with rfl | rfl
    · exact ⟨np0, np0'⟩
    · exact ⟨np1, np1'⟩
  rcases cs2 y with h | ⟨q, hq, rfl⟩
  · simp (disch := omega) only [↓reduceIte, obs, esc_il, esc_ir, leT, leF, ltT, ltF, eqT, eqF, nleT, nleF, nltT, nltF, neqT, neqF, nI_add, pk_mul, ald_nI, ast_nI, irm_nI, idv_nI, zbT, zbF, in_T, in_F1, in_F2, nI_l, sI_1, sI_2, sA_1, sA_2, subK, add0, sub0, or0, lN_add, lN_mul, L_0, L_1, L_2, L_3, L_4, L_5, L_6, L_7, L_8, L_9, L_10, L_11, L_12, L_13, L_14, L_15, L_16, L_17, L_18, L_19, L_20, L_30, L_31, L_32, L_35, L_37, L_39, L_40, L_43, L_48, L_57, L_59, L_60, L_97, L_99, L_100, L_120, L_122, L_127, L_160, L_200, L_255, L_999, L_1000, L_100000, L_1000000, L_24, L_33, L_34, L_36, L_38, L_69, L_70, L_72, L_214, L_215, L_288, L_174, L_175, L_206, LL_0, LL_1, LL_2, LL_3, LL_5, LL_9, LL_10, LL_11, LL_12, LL_19, LL_20, LL_30, LL_39, LL_60, LL_99, LL_127, LL_999, lampOk7 hv hi h1 h2 h3, lampOk8y hp hi h1 h2 h3 hnp.2, ngLt h, ngLe h, ngGe h, ngGt h, ngEq h, ngEq' h, in_ng h, zb_ng h]
    exact ⟨_, _, rfl, rfl, rfl, hall _⟩
  by_cases hq2 : q ≤ 999
  · obtain ⟨u, u1, u2, u3⟩ := reckonL_e (u := F.2.2) hv hi h1 h2 h3
    have ho := odds_e u2 hq2
    rw [luck_main (fun k => frN_le hi (A + k)) (B - A + 1) (by omega)] at ho
    have hl := luck69_e hp hi h1 h2 h3 hq2
    have hd := luck45_e h2 (show B < 12 by omega)
    have h4 := p2_4096 (show B - A + 1 ≤ 12 by omega)
    have h10 := p10_12 (show B - A + 1 ≤ 12 by omega)
    have hX : sumN (fun t => (if q ≤ lkS (fun k => frN a (A + k)) t (B - A + 1) then 1 else 0) * lkO v t (B - A + 1)) (2 ^ (B - A + 1)) ≤ 1000000000000 * 4096 := by
      refine Nat.le_trans (sumN_le (B := 1000000000000) (fun t => ?_) _) (Nat.mul_le_mul_left _ h4)
      have := lkO_le h1 t (B - A + 1)
      split <;> omega
    obtain ⟨z, z1, z2⟩ := low_eq (X := sumN (fun t => (if q ≤ lkS (fun k => frN a (A + k)) t (B - A + 1) then 1 else 0) * lkO v t (B - A + 1)) (2 ^ (B - A + 1))) (Y := 10 ^ (B - A + 1)) (by omega) (Nat.pow_pos (by decide)) (by omega) w
    simp (disch := omega) only [↓reduceIte, obs, esc_il, esc_ir, leT, leF, ltT, ltF, eqT, eqF, nleT, nleF, nltT, nltF, neqT, neqF, nI_add, pk_mul, ald_nI, ast_nI, irm_nI, idv_nI, zbT, zbF, in_T, in_F1, in_F2, nI_l, sI_1, sI_2, sA_1, sA_2, subK, add0, sub0, or0, lN_add, lN_mul, L_0, L_1, L_2, L_3, L_4, L_5, L_6, L_7, L_8, L_9, L_10, L_11, L_12, L_13, L_14, L_15, L_16, L_17, L_18, L_19, L_20, L_30, L_31, L_32, L_35, L_37, L_39, L_40, L_43, L_48, L_57, L_59, L_60, L_97, L_99, L_100, L_120, L_122, L_127, L_160, L_200, L_255, L_999, L_1000, L_100000, L_1000000, L_24, L_33, L_34, L_36, L_38, L_69, L_70, L_72, L_214, L_215, L_288, L_174, L_175, L_206, LL_0, LL_1, LL_2, LL_3, LL_5, LL_9, LL_10, LL_11, LL_12, LL_19, LL_20, LL_30, LL_39, LL_60, LL_99, LL_127, LL_999, lampOk7 hv hi h1 h2 h3, lampOk8y hp hi h1 h2 h3 hnp.2, hnp.1, u1, u3, ho, hl, hd, z1, z2]
    exact ⟨_, _, rfl, rfl, rfl, hall _⟩
  · simp (disch := omega) only [↓reduceIte, obs, esc_il, esc_ir, leT, leF, ltT, ltF, eqT, eqF, nleT, nleF, nltT, nltF, neqT, neqF, nI_add, pk_mul, ald_nI, ast_nI, irm_nI, idv_nI, zbT, zbF, in_T, in_F1, in_F2, nI_l, sI_1, sI_2, sA_1, sA_2, subK, add0, sub0, or0, lN_add, lN_mul, L_0, L_1, L_2, L_3, L_4, L_5, L_6, L_7, L_8, L_9, L_10, L_11, L_12, L_13, L_14, L_15, L_16, L_17, L_18, L_19, L_20, L_30, L_31, L_32, L_35, L_37, L_39, L_40, L_43, L_48, L_57, L_59, L_60, L_97, L_99, L_100, L_120, L_122, L_127, L_160, L_200, L_255, L_999, L_1000, L_100000, L_1000000, L_24, L_33, L_34, L_36, L_38, L_69, L_70, L_72, L_214, L_215, L_288, L_174, L_175, L_206, LL_0, LL_1, LL_2, LL_3, LL_5, LL_9, LL_10, LL_11, LL_12, LL_19, LL_20, LL_30, LL_39, LL_60, LL_99, LL_127, LL_999, lampOk7 hv hi h1 h2 h3, lampOk8y hp hi h1 h2 h3 hnp.2]
    exact ⟨_, _, rfl, rfl, rfl, hall _⟩
