/-! names and faults of a line; all lines -/
def RF (g t : GS) (k : Int32) : Option (Int32 × GS × GS) := Option.bind (mX5_refuse g k) fun v5 => Option.bind (rtZ v5.1) fun z6 => some (z6, v5.2, t)
theorem tl_u (g t : GS) : mX5_takeLine g t = Option.bind (if (g.2 5) = (1 : Int32) then Option.bind (mX5_lineNamed g) fun v2 => some v2 else some (-4 : Int32)) fun (v3 : Int32) => if v3 < 0 then RF g t 2 else if v3 < (8 : Int32) then Option.bind (mX5_isSecond g v3) fun v7 => if v7 = 0 then Option.bind (mX5_isTooMany t v3) fun v9 => if v9 = 0 then TL7 g t v3 else RF g t 5 else RF g t 4 else RF g t 2 := rfl
def C16 (g : GS) (v1 : Int32) : Option GS :=
      if (3 : Int32) < v1 then
        if v1 = (4 : Int32) then
          Option.bind (ald 40 (g.1 1) (39 : Int32)) fun v6 =>
          if v6 = (4 : Int32) then
            Option.bind (mX8_fails g (5 : Int32)) fun v8 =>
            some v8
          else
            some g
        else
          some g
      else
        Option.bind (ald 40 (g.1 1) (12 : Int32)) fun v9 =>
        if v9 = (6 : Int32) then
          Option.bind (mX8_fails g (5 : Int32)) fun v11 =>
          some v11
        else
          if v1 = (4 : Int32) then
            Option.bind (ald 40 (g.1 1) (39 : Int32)) fun v13 =>
            if v13 = (4 : Int32) then
              Option.bind (mX8_fails g (5 : Int32)) fun v15 =>
              some v15
            else
              some g
          else
            some g
def C20 (v16 : GS) (v1 : Int32) : Option GS :=
      if v1 < (5 : Int32) then
        some v16
      else
        if (((v16.2 2) >>> (v1 &&& 31)) &&& (1 : Int32)) = (1 : Int32) then
          Option.bind (mX8_fails v16 (4 : Int32)) fun v19 =>
          some v19
        else
          some v16
def C21 (v20 : GS) (v1 : Int32) : Option GS :=
    Option.bind (mX8_step (sI v20 2 ((v20.2 2) ||| ((1 : Int32) <<< (v1 &&& 31))))) fun v21 =>
    if (v21.2 6) ≤ 0 then Option.bind (mX8_readMore v21 v1) FIN8 else some v21
theorem rl_u (g : GS) : mX8_readLine g = Option.bind (mX8_nameHere g) fun v1 => Option.bind (mX8_in v1.toInt64 (0 : Int64) (7 : Int64)) fun v2 => if v2 = 0 then Option.bind (mX8_fails g (2 : Int32)) fun v29 => some v29 else Option.bind (C16 g v1) fun v16 => Option.bind (C20 v16 v1) fun v20 => C21 v20 v1 := rfl
/-- what was told of wall, window, upside, in both -/
def TD (tv tr : Nat) : Prop := tv < 256 ∧ tr < 256 ∧ tv.testBit 4 = tr.testBit 5 ∧ tv.testBit 5 = tr.testBit 6 ∧ tv.testBit 6 = tr.testBit 7
theorem or_gen {a b : Nat} (ha : a < 256) (hb : b < 256) : nI a ||| nI b = nI (a ||| b) := by
  have h : a ||| b < 256 := Nat.or_lt_two_pow (n := 8) ha hb
  apply Int32.toBitVec_inj.mp
  apply BitVec.eq_of_toNat_eq
  rw [Int32.toBitVec_or, BitVec.toNat_or, pk_tn (by omega), pk_tn (by omega), pk_tn (by omega)]
theorem p8 {i : Nat} (h : i < 8) : 2 ^ i < 256 := show 2 ^ i < 2 ^ 8 from Nat.pow_lt_pow_right (by decide) h
theorem tlZ_e {tv i : Nat} (h : tv < 256) (hi : i < 8) : tlZ (nI tv) i = nI (tv ||| 2 ^ i) := by
  unfold tlZ
  rw [one_shl (by omega), or_gen h (p8 hi)]
theorem TD_s {tv tr i : Nat} (h : TD tv tr) (hi : i < 8) : TD (tv ||| 2 ^ i) (tr ||| 2 ^ RO8 i) := by
  obtain ⟨h1, h2, h3, h4, h5⟩ := h
  refine ⟨Nat.or_lt_two_pow (n := 8) h1 (p8 hi), Nat.or_lt_two_pow (n := 8) h2 (p8 (ro_e i hi).1), ?_, ?_, ?_⟩
  all_goals
    rw [Nat.testBit_or, Nat.testBit_or, Nat.testBit_two_pow, Nat.testBit_two_pow]
    rcases (show i = 0 ∨ i = 1 ∨ i = 2 ∨ i = 3 ∨ i = 4 ∨ i = 5 ∨ i = 6 ∨ i = 7 by omega) with rfl | rfl | rfl | rfl | rfl | rfl | rfl | rfl
  all_goals simp [RO8, h3, h4, h5]
theorem tb_e (x i : Nat) : x / 2 ^ i % 2 = bN (x.testBit i) := by
  rw [Nat.testBit_eq_decide_div_mod_eq]
  unfold bN
  by_cases h : x / 2 ^ i % 2 = 1
  · rw [h]; rfl
  · rw [decide_eq_false h]
    show _ = 0
    omega
section
variable {rd M : GS} {n : Nat} {c : Nat → Nat}
theorem RF_e (t : GS) (fa fp sp nu lt : Int32) {T s k : Nat} (hT : T < 10) (hk : k < 10) : RF (rdS rd fa fp (nI T) (nI s) sp nu lt) t (nI k) = some (nI 0, rdS rd (nI (if T = 4 then 1 else k)) (nI s) (nI T) (nI s) sp nu lt, t) := by
  unfold RF mX5_refuse
  by_cases h : T = 4
  · rw [if_pos h]
    simp (disch := omega) only [↓reduceIte, obs, esc_il, esc_ir, leT, leF, ltT, ltF, eqT, eqF, nleT, nleF, nltT, nltF, neqT, neqF, nI_add, pk_mul, ald_nI, ast_nI, irm_nI, idv_nI, zbT, zbF, in_T, in_F1, in_F2, nI_l, sI_1, sI_2, sA_1, sA_2, subK, add0, sub0, or0, lN_add, lN_mul, L_0, L_1, L_2, L_3, L_4, L_5, L_6, L_7, L_8, L_9, L_10, L_11, L_12, L_13, L_14, L_15, L_16, L_17, L_18, L_19, L_20, L_30, L_31, L_32, L_35, L_37, L_39, L_40, L_43, L_48, L_57, L_59, L_60, L_97, L_99, L_100, L_120, L_122, L_127, L_160, L_200, L_255, L_999, L_1000, L_100000, L_1000000, L_24, L_33, L_34, L_36, L_38, L_69, L_70, L_72, L_214, L_215, L_288, L_174, L_175, L_206, LL_0, LL_1, LL_2, LL_3, LL_5, LL_7, LL_9, LL_10, LL_11, LL_12, LL_19, LL_20, LL_30, LL_39, LL_48, LL_57, LL_60, LL_97, LL_99, LL_122, LL_127, LL_999, rd_1, rd_2, rd_3, rd_4, rd_5, rd_6, rd_7, rd_8, rd_9, rd_s3, rd_s4, rd_s5, rd_s6, rd_s7, rd_s8, rd_s9, rtZ0]
  · rw [if_neg h]
    simp (disch := omega) only [↓reduceIte, obs, esc_il, esc_ir, leT, leF, ltT, ltF, eqT, eqF, nleT, nleF, nltT, nltF, neqT, neqF, nI_add, pk_mul, ald_nI, ast_nI, irm_nI, idv_nI, zbT, zbF, in_T, in_F1, in_F2, nI_l, sI_1, sI_2, sA_1, sA_2, subK, add0, sub0, or0, lN_add, lN_mul, L_0, L_1, L_2, L_3, L_4, L_5, L_6, L_7, L_8, L_9, L_10, L_11, L_12, L_13, L_14, L_15, L_16, L_17, L_18, L_19, L_20, L_30, L_31, L_32, L_35, L_37, L_39, L_40, L_43, L_48, L_57, L_59, L_60, L_97, L_99, L_100, L_120, L_122, L_127, L_160, L_200, L_255, L_999, L_1000, L_100000, L_1000000, L_24, L_33, L_34, L_36, L_38, L_69, L_70, L_72, L_214, L_215, L_288, L_174, L_175, L_206, LL_0, LL_1, LL_2, LL_3, LL_5, LL_7, LL_9, LL_10, LL_11, LL_12, LL_19, LL_20, LL_30, LL_39, LL_48, LL_57, LL_60, LL_97, LL_99, LL_122, LL_127, LL_999, rd_1, rd_2, rd_3, rd_4, rd_5, rd_6, rd_7, rd_8, rd_9, rd_s3, rd_s4, rd_s5, rd_s6, rd_s7, rd_s8, rd_s9, rtZ0]
theorem sec7 (fa fp tk st sp nu : Int32) {tv i : Nat} (hv : tv < 256) (hi : i < 8) : mX5_isSecond (rdS rd fa fp tk st sp nu (nI tv)) (nI i) = some (nI (if i = 4 ∨ i = 5 ∨ i = 6 then bN (tv.testBit i) else 0)) := by
  have hb := bit_nI (b := tv) (i := i) (by omega) (by omega)
  rw [tb_e] at hb
  have e31 : (31 : Int32) = nI 31 := rfl
  have hbn := bN_le (tv.testBit i)
  unfold mX5_isSecond
  by_cases h : i = 4 ∨ i = 5 ∨ i = 6
  · rw [if_pos h]
    rcases (show bN (tv.testBit i) = 0 ∨ bN (tv.testBit i) = 1 by omega) with h0 | h0
    · rw [h0] at hb ⊢
      rcases h with rfl | rfl | rfl <;> simp (disch := omega) only [↓reduceIte, obs, esc_il, esc_ir, leT, leF, ltT, ltF, eqT, eqF, nleT, nleF, nltT, nltF, neqT, neqF, nI_add, pk_mul, ald_nI, ast_nI, irm_nI, idv_nI, zbT, zbF, in_T, in_F1, in_F2, nI_l, sI_1, sI_2, sA_1, sA_2, subK, add0, sub0, or0, lN_add, lN_mul, L_0, L_1, L_2, L_3, L_4, L_5, L_6, L_7, L_8, L_9, L_10, L_11, L_12, L_13, L_14, L_15, L_16, L_17, L_18, L_19, L_20, L_30, L_31, L_32, L_35, L_37, L_39, L_40, L_43, L_48, L_57, L_59, L_60, L_97, L_99, L_100, L_120, L_122, L_127, L_160, L_200, L_255, L_999, L_1000, L_100000, L_1000000, L_24, L_33, L_34, L_36, L_38, L_69, L_70, L_72, L_214, L_215, L_288, L_174, L_175, L_206, LL_0, LL_1, LL_2, LL_3, LL_5, LL_7, LL_9, LL_10, LL_11, LL_12, LL_19, LL_20, LL_30, LL_39, LL_48, LL_57, LL_60, LL_97, LL_99, LL_122, LL_127, LL_999, rd_1, rd_2, rd_3, rd_4, rd_5, rd_6, rd_7, rd_8, rd_9, rd_s3, rd_s4, rd_s5, rd_s6, rd_s7, rd_s8, rd_s9, e31, hb]
    · rw [h0] at hb ⊢
      rcases h with rfl | rfl | rfl <;> simp (disch := omega) only [↓reduceIte, obs, esc_il, esc_ir, leT, leF, ltT, ltF, eqT, eqF, nleT, nleF, nltT, nltF, neqT, neqF, nI_add, pk_mul, ald_nI, ast_nI, irm_nI, idv_nI, zbT, zbF, in_T, in_F1, in_F2, nI_l, sI_1, sI_2, sA_1, sA_2, subK, add0, sub0, or0, lN_add, lN_mul, L_0, L_1, L_2, L_3, L_4, L_5, L_6, L_7, L_8, L_9, L_10, L_11, L_12, L_13, L_14, L_15, L_16, L_17, L_18, L_19, L_20, L_30, L_31, L_32, L_35, L_37, L_39, L_40, L_43, L_48, L_57, L_59, L_60, L_97, L_99, L_100, L_120, L_122, L_127, L_160, L_200, L_255, L_999, L_1000, L_100000, L_1000000, L_24, L_33, L_34, L_36, L_38, L_69, L_70, L_72, L_214, L_215, L_288, L_174, L_175, L_206, LL_0, LL_1, LL_2, LL_3, LL_5, LL_7, LL_9, LL_10, LL_11, LL_12, LL_19, LL_20, LL_30, LL_39, LL_48, LL_57, LL_60, LL_97, LL_99, LL_122, LL_127, LL_999, rd_1, rd_2, rd_3, rd_4, rd_5, rd_6, rd_7, rd_8, rd_9, rd_s3, rd_s4, rd_s5, rd_s6, rd_s7, rd_s8, rd_s9, e31, hb]
  · rw [if_neg h]
    simp (disch := omega) only [↓reduceIte, obs, esc_il, esc_ir, leT, leF, ltT, ltF, eqT, eqF, nleT, nleF, nltT, nltF, neqT, neqF, nI_add, pk_mul, ald_nI, ast_nI, irm_nI, idv_nI, zbT, zbF, in_T, in_F1, in_F2, nI_l, sI_1, sI_2, sA_1, sA_2, subK, add0, sub0, or0, lN_add, lN_mul, L_0, L_1, L_2, L_3, L_4, L_5, L_6, L_7, L_8, L_9, L_10, L_11, L_12, L_13, L_14, L_15, L_16, L_17, L_18, L_19, L_20, L_30, L_31, L_32, L_35, L_37, L_39, L_40, L_43, L_48, L_57, L_59, L_60, L_97, L_99, L_100, L_120, L_122, L_127, L_160, L_200, L_255, L_999, L_1000, L_100000, L_1000000, L_24, L_33, L_34, L_36, L_38, L_69, L_70, L_72, L_214, L_215, L_288, L_174, L_175, L_206, LL_0, LL_1, LL_2, LL_3, LL_5, LL_7, LL_9, LL_10, LL_11, LL_12, LL_19, LL_20, LL_30, LL_39, LL_48, LL_57, LL_60, LL_97, LL_99, LL_122, LL_127, LL_999]
theorem tm7 {t : GS} {b : AH} (hv : HV t b) (hb : HI b) {i : Nat} (hi : i < 8) : mX5_isTooMany t (nI i) = some (nI (if (i < 4 ∧ b.2 5 = 6) ∨ (i = 7 ∧ b.2 12 = 4) then 1 else 0)) := by
  have hbb := hb.nb
  unfold mX5_isTooMany
  by_cases h4 : i < 4
  · by_cases h6 : b.2 5 = 6
    · rw [show (if (i < 4 ∧ b.2 5 = 6) ∨ (i = 7 ∧ b.2 12 = 4) then 1 else 0) = 1 from if_pos (Or.inl ⟨h4, h6⟩)]
      simp (disch := omega) only [↓reduceIte, obs, esc_il, esc_ir, leT, leF, ltT, ltF, eqT, eqF, nleT, nleF, nltT, nltF, neqT, neqF, nI_add, pk_mul, ald_nI, ast_nI, irm_nI, idv_nI, zbT, zbF, in_T, in_F1, in_F2, nI_l, sI_1, sI_2, sA_1, sA_2, subK, add0, sub0, or0, lN_add, lN_mul, L_0, L_1, L_2, L_3, L_4, L_5, L_6, L_7, L_8, L_9, L_10, L_11, L_12, L_13, L_14, L_15, L_16, L_17, L_18, L_19, L_20, L_30, L_31, L_32, L_35, L_37, L_39, L_40, L_43, L_48, L_57, L_59, L_60, L_97, L_99, L_100, L_120, L_122, L_127, L_160, L_200, L_255, L_999, L_1000, L_100000, L_1000000, L_24, L_33, L_34, L_36, L_38, L_69, L_70, L_72, L_214, L_215, L_288, L_174, L_175, L_206, LL_0, LL_1, LL_2, LL_3, LL_5, LL_7, LL_9, LL_10, LL_11, LL_12, LL_19, LL_20, LL_30, LL_39, LL_48, LL_57, LL_60, LL_97, LL_99, LL_122, LL_127, LL_999, hv.b, hv.r]
    · rw [show (if (i < 4 ∧ b.2 5 = 6) ∨ (i = 7 ∧ b.2 12 = 4) then 1 else 0) = 0 from if_neg (by omega)]
      simp (disch := omega) only [↓reduceIte, obs, esc_il, esc_ir, leT, leF, ltT, ltF, eqT, eqF, nleT, nleF, nltT, nltF, neqT, neqF, nI_add, pk_mul, ald_nI, ast_nI, irm_nI, idv_nI, zbT, zbF, in_T, in_F1, in_F2, nI_l, sI_1, sI_2, sA_1, sA_2, subK, add0, sub0, or0, lN_add, lN_mul, L_0, L_1, L_2, L_3, L_4, L_5, L_6, L_7, L_8, L_9, L_10, L_11, L_12, L_13, L_14, L_15, L_16, L_17, L_18, L_19, L_20, L_30, L_31, L_32, L_35, L_37, L_39, L_40, L_43, L_48, L_57, L_59, L_60, L_97, L_99, L_100, L_120, L_122, L_127, L_160, L_200, L_255, L_999, L_1000, L_100000, L_1000000, L_24, L_33, L_34, L_36, L_38, L_69, L_70, L_72, L_214, L_215, L_288, L_174, L_175, L_206, LL_0, LL_1, LL_2, LL_3, LL_5, LL_7, LL_9, LL_10, LL_11, LL_12, LL_19, LL_20, LL_30, LL_39, LL_48, LL_57, LL_60, LL_97, LL_99, LL_122, LL_127, LL_999, hv.b, hv.r]
  · by_cases h7 : i = 7
    · by_cases h12 : b.2 12 = 4
      · rw [show (if (i < 4 ∧ b.2 5 = 6) ∨ (i = 7 ∧ b.2 12 = 4) then 1 else 0) = 1 from if_pos (Or.inr ⟨h7, h12⟩)]
        simp (disch := omega) only [↓reduceIte, obs, esc_il, esc_ir, leT, leF, ltT, ltF, eqT, eqF, nleT, nleF, nltT, nltF, neqT, neqF, nI_add, pk_mul, ald_nI, ast_nI, irm_nI, idv_nI, zbT, zbF, in_T, in_F1, in_F2, nI_l, sI_1, sI_2, sA_1, sA_2, subK, add0, sub0, or0, lN_add, lN_mul, L_0, L_1, L_2, L_3, L_4, L_5, L_6, L_7, L_8, L_9, L_10, L_11, L_12, L_13, L_14, L_15, L_16, L_17, L_18, L_19, L_20, L_30, L_31, L_32, L_35, L_37, L_39, L_40, L_43, L_48, L_57, L_59, L_60, L_97, L_99, L_100, L_120, L_122, L_127, L_160, L_200, L_255, L_999, L_1000, L_100000, L_1000000, L_24, L_33, L_34, L_36, L_38, L_69, L_70, L_72, L_214, L_215, L_288, L_174, L_175, L_206, LL_0, LL_1, LL_2, LL_3, LL_5, LL_7, LL_9, LL_10, LL_11, LL_12, LL_19, LL_20, LL_30, LL_39, LL_48, LL_57, LL_60, LL_97, LL_99, LL_122, LL_127, LL_999, hv.b, hv.r]
      · rw [show (if (i < 4 ∧ b.2 5 = 6) ∨ (i = 7 ∧ b.2 12 = 4) then 1 else 0) = 0 from if_neg (by omega)]
        simp (disch := omega) only [↓reduceIte, obs, esc_il, esc_ir, leT, leF, ltT, ltF, eqT, eqF, nleT, nleF, nltT, nltF, neqT, neqF, nI_add, pk_mul, ald_nI, ast_nI, irm_nI, idv_nI, zbT, zbF, in_T, in_F1, in_F2, nI_l, sI_1, sI_2, sA_1, sA_2, subK, add0, sub0, or0, lN_add, lN_mul, L_0, L_1, L_2, L_3, L_4, L_5, L_6, L_7, L_8, L_9, L_10, L_11, L_12, L_13, L_14, L_15, L_16, L_17, L_18, L_19, L_20, L_30, L_31, L_32, L_35, L_37, L_39, L_40, L_43, L_48, L_57, L_59, L_60, L_97, L_99, L_100, L_120, L_122, L_127, L_160, L_200, L_255, L_999, L_1000, L_100000, L_1000000, L_24, L_33, L_34, L_36, L_38, L_69, L_70, L_72, L_214, L_215, L_288, L_174, L_175, L_206, LL_0, LL_1, LL_2, LL_3, LL_5, LL_7, LL_9, LL_10, LL_11, LL_12, LL_19, LL_20, LL_30, LL_39, LL_48, LL_57, LL_60, LL_97, LL_99, LL_122, LL_127, LL_999, hv.b, hv.r]
    · rw [show (if (i < 4 ∧ b.2 5 = 6) ∨ (i = 7 ∧ b.2 12 = 4) then 1 else 0) = 0 from if_neg (by omega)]
      simp (disch := omega) only [↓reduceIte, obs, esc_il, esc_ir, leT, leF, ltT, ltF, eqT, eqF, nleT, nleF, nltT, nltF, neqT, neqF, nI_add, pk_mul, ald_nI, ast_nI, irm_nI, idv_nI, zbT, zbF, in_T, in_F1, in_F2, nI_l, sI_1, sI_2, sA_1, sA_2, subK, add0, sub0, or0, lN_add, lN_mul, L_0, L_1, L_2, L_3, L_4, L_5, L_6, L_7, L_8, L_9, L_10, L_11, L_12, L_13, L_14, L_15, L_16, L_17, L_18, L_19, L_20, L_30, L_31, L_32, L_35, L_37, L_39, L_40, L_43, L_48, L_57, L_59, L_60, L_97, L_99, L_100, L_120, L_122, L_127, L_160, L_200, L_255, L_999, L_1000, L_100000, L_1000000, L_24, L_33, L_34, L_36, L_38, L_69, L_70, L_72, L_214, L_215, L_288, L_174, L_175, L_206, LL_0, LL_1, LL_2, LL_3, LL_5, LL_7, LL_9, LL_10, LL_11, LL_12, LL_19, LL_20, LL_30, LL_39, LL_48, LL_57, LL_60, LL_97, LL_99, LL_122, LL_127, LL_999]
/-- how taking a line ends, in both -/
def TkE (rd M : GS) (n : Nat) (c : Nat → Nat) (t : GS) (b : AH) (fp : Int32) (p : Nat) (x : Option (Int32 × GS × GS)) (y : Option GS) : Prop := (∃ e a rp td lt G tk st sp nu, 0 < e ∧ e < 10 ∧ x = some (nI 0, rdS rd (nI e) (nI a) tk st sp nu lt, t) ∧ y = some G ∧ BK M rp td e a G) ∨ ∃ p' rp b' t' G tk st nu tv tr, p + 2 ≤ p' ∧ p' ≤ n ∧ x = some (nI 1, rdS rd (nI 0) fp tk st (nI p') nu (nI tv), t') ∧ y = some G ∧ ST M n c rp (nI tr) p' G ∧ HV t' b' ∧ PV rp 0 b' ∧ HI b' ∧ b'.2 11 = b.2 11 ∧ TD tv tr
theorem C21_brk {rp : Nat → Int32} {td : Int32} {e a : Nat} {G : GS} (h : BK M rp td e a G) (he : 0 < e) (h10 : e < 10) (v1 : Int32) : ∃ G' td', C21 G v1 = some G' ∧ BK M rp td' e a G' := by
  obtain ⟨sp, hh, tk, va, rfl⟩ := h
  have hb : BK M rp (td ||| (1 <<< (v1 &&& 31))) e a (mdS M rp (td ||| (1 <<< (v1 &&& 31))) (nI e) (nI a) sp hh tk va) := ⟨_, _, _, _, rfl⟩
  have hs := stepB hb he h10
  refine ⟨_, _, ?_, hb⟩
  unfold C21
  rw [md_2, md_s2, hs, obs, md_6, if_neg (nI_nle he (by omega))]
theorem take_e (hT : Tp rd M n c) (hC : M.1 12 = lf CUTS 9) (hLt : M.1 13 = lf LETS 43) {p : Nat} (hp : p ≤ n) (h0 : lxT n c p ≠ 0) (h4 : lxT n c p ≠ 4) {rp : Nat → Int32} {tv tr : Nat} (hTD : TD tv tr) {G : GS} (hS : ST M n c rp (nI tr) p G) {b : AH} {t : GS} (hv : HV t b) (hq : PV rp 0 b) (hb : HI b) (fp nu : Int32) : TkE rd M n c t b fp p (mX5_takeLine (rdS rd (nI 0) fp (nI (lxT n c p)) (nI (lxS n c p)) (nI (lxE n c p)) nu (nI tv)) t) (mX8_readLine G) := by
  have hn := hT.le
  have hbb := hb.nb
  obtain ⟨f1, f2, f3, f4⟩ := lxS_f (c := c) hp hn
  obtain ⟨k1, k2, k3, k4, k5⟩ := lxE_f (c := c) hn hp
  rcases hS with ⟨c4, -⟩ | ⟨-, bp, rfl⟩
  · exact absurd c4 h4
  rw [tl_u, rl_u]
  by_cases h1 : lxT n c p = 1
  · rw [show (if lxT n c p = 2 then lxV n c p else 0) = 0 from if_neg (by rw [h1]; decide), h1]
    rcases name_e hT hC hLt k1 k2 (nI 0) fp (nI 1) nu (nI tv) rp (nI tr) (nI 0) bp (nI 0) with ⟨i, hi, hw, e1, e2⟩ | ⟨e1, e2⟩
    · have hr := ro_e i hi
      have hin : mX8_in (nI (RO8 i)).toInt64 (0 : Int64) (7 : Int64) = some (nI 1) := by
        simp (disch := omega) only [↓reduceIte, obs, esc_il, esc_ir, leT, leF, ltT, ltF, eqT, eqF, nleT, nleF, nltT, nltF, neqT, neqF, nI_add, pk_mul, ald_nI, ast_nI, irm_nI, idv_nI, zbT, zbF, in_T, in_F1, in_F2, nI_l, sI_1, sI_2, sA_1, sA_2, subK, add0, sub0, or0, lN_add, lN_mul, L_0, L_1, L_2, L_3, L_4, L_5, L_6, L_7, L_8, L_9, L_10, L_11, L_12, L_13, L_14, L_15, L_16, L_17, L_18, L_19, L_20, L_30, L_31, L_32, L_35, L_37, L_39, L_40, L_43, L_48, L_57, L_59, L_60, L_97, L_99, L_100, L_120, L_122, L_127, L_160, L_200, L_255, L_999, L_1000, L_100000, L_1000000, L_24, L_33, L_34, L_36, L_38, L_69, L_70, L_72, L_214, L_215, L_288, L_174, L_175, L_206, LL_0, LL_1, LL_2, LL_3, LL_5, LL_7, LL_9, LL_10, LL_11, LL_12, LL_19, LL_20, LL_30, LL_39, LL_48, LL_57, LL_60, LL_97, LL_99, LL_122, LL_127, LL_999, LL_7]
      rw [rd_5, if_pos (show nI 1 = 1 from rfl), e1, obs, obs, if_neg (nI_pos (by omega)), if_pos (show nI i < (8 : Int32) from nI_lt (b := 8) (by omega) (by decide)), sec7 _ _ _ _ _ _ hTD.1 hi, obs, e2, obs, hin, obs, if_neg (show ¬ nI 1 = 0 by decide)]
      by_cases hsec : (i = 4 ∨ i = 5 ∨ i = 6) ∧ tv.testBit i = true
      · rw [if_pos hsec.1, hsec.2, if_neg (show ¬ nI (bN true) = 0 by decide), L_4, RF_e t _ _ _ _ _ (by decide) (by decide), if_neg (by decide)]
        have h16 : C16 (mdS M rp (nI tr) (nI 0) bp (nI (lxE n c p)) (nI (lxS n c p)) (nI 1) (nI 0)) (nI (RO8 i)) = some (mdS M rp (nI tr) (nI 0) bp (nI (lxE n c p)) (nI (lxS n c p)) (nI 1) (nI 0)) := by
          unfold C16
          rcases hsec.1 with rfl | rfl | rfl <;> simp (disch := omega) only [↓reduceIte, obs, esc_il, esc_ir, leT, leF, ltT, ltF, eqT, eqF, nleT, nleF, nltT, nltF, neqT, neqF, nI_add, pk_mul, ald_nI, ast_nI, irm_nI, idv_nI, zbT, zbF, in_T, in_F1, in_F2, nI_l, sI_1, sI_2, sA_1, sA_2, subK, add0, sub0, or0, lN_add, lN_mul, L_0, L_1, L_2, L_3, L_4, L_5, L_6, L_7, L_8, L_9, L_10, L_11, L_12, L_13, L_14, L_15, L_16, L_17, L_18, L_19, L_20, L_30, L_31, L_32, L_35, L_37, L_39, L_40, L_43, L_48, L_57, L_59, L_60, L_97, L_99, L_100, L_120, L_122, L_127, L_160, L_200, L_255, L_999, L_1000, L_100000, L_1000000, L_24, L_33, L_34, L_36, L_38, L_69, L_70, L_72, L_214, L_215, L_288, L_174, L_175, L_206, LL_0, LL_1, LL_2, LL_3, LL_5, LL_7, LL_9, LL_10, LL_11, LL_12, LL_19, LL_20, LL_30, LL_39, LL_48, LL_57, LL_60, LL_97, LL_99, LL_122, LL_127, LL_999, RO8, List.getD_cons_zero, List.getD_cons_succ]
        have htr : tr.testBit (RO8 i) = true := by
          rcases hsec.1 with rfl | rfl | rfl
          · exact hTD.2.2.1.symm.trans hsec.2
          · exact hTD.2.2.2.1.symm.trans hsec.2
          · exact hTD.2.2.2.2.symm.trans hsec.2
        have hm5 : 5 ≤ RO8 i := by rcases hsec.1 with rfl | rfl | rfl <;> decide
        have hbt := bit_nI (b := tr) (i := RO8 i) (by have := hTD.2.1; omega) (by omega)
        rw [tb_e, htr] at hbt
        have e31 : (31 : Int32) = nI 31 := rfl
        have h20 : C20 (mdS M rp (nI tr) (nI 0) bp (nI (lxE n c p)) (nI (lxS n c p)) (nI 1) (nI 0)) (nI (RO8 i)) = some (mdS M rp (nI tr) (nI 4) (nI (lxS n c p)) (nI (lxE n c p)) (nI (lxS n c p)) (nI 1) (nI 0)) := by
          unfold C20 mX8_fails
          simp (disch := omega) only [↓reduceIte, obs, esc_il, esc_ir, leT, leF, ltT, ltF, eqT, eqF, nleT, nleF, nltT, nltF, neqT, neqF, nI_add, pk_mul, ald_nI, ast_nI, irm_nI, idv_nI, zbT, zbF, in_T, in_F1, in_F2, nI_l, sI_1, sI_2, sA_1, sA_2, subK, add0, sub0, or0, lN_add, lN_mul, L_0, L_1, L_2, L_3, L_4, L_5, L_6, L_7, L_8, L_9, L_10, L_11, L_12, L_13, L_14, L_15, L_16, L_17, L_18, L_19, L_20, L_30, L_31, L_32, L_35, L_37, L_39, L_40, L_43, L_48, L_57, L_59, L_60, L_97, L_99, L_100, L_120, L_122, L_127, L_160, L_200, L_255, L_999, L_1000, L_100000, L_1000000, L_24, L_33, L_34, L_36, L_38, L_69, L_70, L_72, L_214, L_215, L_288, L_174, L_175, L_206, LL_0, LL_1, LL_2, LL_3, LL_5, LL_7, LL_9, LL_10, LL_11, LL_12, LL_19, LL_20, LL_30, LL_39, LL_48, LL_57, LL_60, LL_97, LL_99, LL_122, LL_127, LL_999, md_0, md_1, md_t, md_12, md_13, md_2, md_4, md_6, md_7, md_8, md_9, md_10, md_11, md_s, md_s2, md_s6, md_s7, md_s8, md_s9, md_s10, md_s11, e31, hbt, bN]
        have hbk : BK M rp (nI tr) 4 (lxS n c p) (mdS M rp (nI tr) (nI 4) (nI (lxS n c p)) (nI (lxE n c p)) (nI (lxS n c p)) (nI 1) (nI 0)) := ⟨_, _, _, _, rfl⟩
        obtain ⟨G', td', g1, g2⟩ := C21_brk hbk (by decide) (by decide) (nI (RO8 i))
        rw [h16, obs, h20, obs, g1]
        exact Or.inl ⟨4, _, rp, td', _, G', _, _, _, _, by decide, by decide, rfl, rfl, g2⟩
      · have hz : (if i = 4 ∨ i = 5 ∨ i = 6 then bN (tv.testBit i) else 0) = 0 := by
          by_cases h456 : i = 4 ∨ i = 5 ∨ i = 6
          · rw [if_pos h456]
            cases hb2 : tv.testBit i
            · rfl
            · exact absurd ⟨h456, hb2⟩ hsec
          · rw [if_neg h456]
        rw [hz, if_pos (show nI 0 = 0 from rfl), tm7 hv hb hi, obs]
        have h20 : ∀ br bp' : Int32, C20 (mdS M rp (nI tr) br bp' (nI (lxE n c p)) (nI (lxS n c p)) (nI 1) (nI 0)) (nI (RO8 i)) = some (mdS M rp (nI tr) br bp' (nI (lxE n c p)) (nI (lxS n c p)) (nI 1) (nI 0)) := by
          intro br bp'
          unfold C20
          by_cases h456 : i = 4 ∨ i = 5 ∨ i = 6
          · have hm5 : 5 ≤ RO8 i := by rcases h456 with rfl | rfl | rfl <;> decide
            have htr : tr.testBit (RO8 i) = false := by
              have hf : tv.testBit i = false := by
                cases hb2 : tv.testBit i
                · rfl
                · exact absurd ⟨h456, hb2⟩ hsec
              rcases h456 with rfl | rfl | rfl
              · exact hTD.2.2.1.symm.trans hf
              · exact hTD.2.2.2.1.symm.trans hf
              · exact hTD.2.2.2.2.symm.trans hf
            have hbt := bit_nI (b := tr) (i := RO8 i) (by have := hTD.2.1; omega) (by omega)
            rw [tb_e, htr] at hbt
            have e31 : (31 : Int32) = nI 31 := rfl
            simp (disch := omega) only [↓reduceIte, obs, esc_il, esc_ir, leT, leF, ltT, ltF, eqT, eqF, nleT, nleF, nltT, nltF, neqT, neqF, nI_add, pk_mul, ald_nI, ast_nI, irm_nI, idv_nI, zbT, zbF, in_T, in_F1, in_F2, nI_l, sI_1, sI_2, sA_1, sA_2, subK, add0, sub0, or0, lN_add, lN_mul, L_0, L_1, L_2, L_3, L_4, L_5, L_6, L_7, L_8, L_9, L_10, L_11, L_12, L_13, L_14, L_15, L_16, L_17, L_18, L_19, L_20, L_30, L_31, L_32, L_35, L_37, L_39, L_40, L_43, L_48, L_57, L_59, L_60, L_97, L_99, L_100, L_120, L_122, L_127, L_160, L_200, L_255, L_999, L_1000, L_100000, L_1000000, L_24, L_33, L_34, L_36, L_38, L_69, L_70, L_72, L_214, L_215, L_288, L_174, L_175, L_206, LL_0, LL_1, LL_2, LL_3, LL_5, LL_7, LL_9, LL_10, LL_11, LL_12, LL_19, LL_20, LL_30, LL_39, LL_48, LL_57, LL_60, LL_97, LL_99, LL_122, LL_127, LL_999, md_0, md_1, md_t, md_12, md_13, md_2, md_4, md_6, md_7, md_8, md_9, md_10, md_11, md_s, md_s2, md_s6, md_s7, md_s8, md_s9, md_s10, md_s11, e31, hbt, bN, Bool.false_eq_true]
          · have hm5 : RO8 i < 5 := by
              rcases (show i = 0 ∨ i = 1 ∨ i = 2 ∨ i = 3 ∨ i = 7 by omega) with rfl | rfl | rfl | rfl | rfl <;> decide
            simp (disch := omega) only [↓reduceIte, obs, esc_il, esc_ir, leT, leF, ltT, ltF, eqT, eqF, nleT, nleF, nltT, nltF, neqT, neqF, nI_add, pk_mul, ald_nI, ast_nI, irm_nI, idv_nI, zbT, zbF, in_T, in_F1, in_F2, nI_l, sI_1, sI_2, sA_1, sA_2, subK, add0, sub0, or0, lN_add, lN_mul, L_0, L_1, L_2, L_3, L_4, L_5, L_6, L_7, L_8, L_9, L_10, L_11, L_12, L_13, L_14, L_15, L_16, L_17, L_18, L_19, L_20, L_30, L_31, L_32, L_35, L_37, L_39, L_40, L_43, L_48, L_57, L_59, L_60, L_97, L_99, L_100, L_120, L_122, L_127, L_160, L_200, L_255, L_999, L_1000, L_100000, L_1000000, L_24, L_33, L_34, L_36, L_38, L_69, L_70, L_72, L_214, L_215, L_288, L_174, L_175, L_206, LL_0, LL_1, LL_2, LL_3, LL_5, LL_7, LL_9, LL_10, LL_11, LL_12, LL_19, LL_20, LL_30, LL_39, LL_48, LL_57, LL_60, LL_97, LL_99, LL_122, LL_127, LL_999]
        by_cases htm : (i < 4 ∧ b.2 5 = 6) ∨ (i = 7 ∧ b.2 12 = 4)
        · rw [if_pos htm, if_neg (show ¬ nI 1 = 0 by decide), L_5, RF_e t _ _ _ _ _ (by decide) (by decide), if_neg (by decide)]
          have h16 : C16 (mdS M rp (nI tr) (nI 0) bp (nI (lxE n c p)) (nI (lxS n c p)) (nI 1) (nI 0)) (nI (RO8 i)) = some (mdS M rp (nI tr) (nI 5) (nI (lxS n c p)) (nI (lxE n c p)) (nI (lxS n c p)) (nI 1) (nI 0)) := by
            unfold C16 mX8_fails
            rcases htm with ⟨h4', h6⟩ | ⟨rfl, h12⟩
            · have hro : RO8 i = i := by
                rcases (show i = 0 ∨ i = 1 ∨ i = 2 ∨ i = 3 by omega) with rfl | rfl | rfl | rfl <;> rfl
              rw [hro]
              simp (disch := omega) only [↓reduceIte, obs, esc_il, esc_ir, leT, leF, ltT, ltF, eqT, eqF, nleT, nleF, nltT, nltF, neqT, neqF, nI_add, pk_mul, ald_nI, ast_nI, irm_nI, idv_nI, zbT, zbF, in_T, in_F1, in_F2, nI_l, sI_1, sI_2, sA_1, sA_2, subK, add0, sub0, or0, lN_add, lN_mul, L_0, L_1, L_2, L_3, L_4, L_5, L_6, L_7, L_8, L_9, L_10, L_11, L_12, L_13, L_14, L_15, L_16, L_17, L_18, L_19, L_20, L_30, L_31, L_32, L_35, L_37, L_39, L_40, L_43, L_48, L_57, L_59, L_60, L_97, L_99, L_100, L_120, L_122, L_127, L_160, L_200, L_255, L_999, L_1000, L_100000, L_1000000, L_24, L_33, L_34, L_36, L_38, L_69, L_70, L_72, L_214, L_215, L_288, L_174, L_175, L_206, LL_0, LL_1, LL_2, LL_3, LL_5, LL_7, LL_9, LL_10, LL_11, LL_12, LL_19, LL_20, LL_30, LL_39, LL_48, LL_57, LL_60, LL_97, LL_99, LL_122, LL_127, LL_999, md_0, md_1, md_t, md_12, md_13, md_2, md_4, md_6, md_7, md_8, md_9, md_10, md_11, md_s, md_s2, md_s6, md_s7, md_s8, md_s9, md_s10, md_s11, P0.b hq]
            · rw [show RO8 7 = 4 from rfl]
              simp (disch := omega) only [↓reduceIte, obs, esc_il, esc_ir, leT, leF, ltT, ltF, eqT, eqF, nleT, nleF, nltT, nltF, neqT, neqF, nI_add, pk_mul, ald_nI, ast_nI, irm_nI, idv_nI, zbT, zbF, in_T, in_F1, in_F2, nI_l, sI_1, sI_2, sA_1, sA_2, subK, add0, sub0, or0, lN_add, lN_mul, L_0, L_1, L_2, L_3, L_4, L_5, L_6, L_7, L_8, L_9, L_10, L_11, L_12, L_13, L_14, L_15, L_16, L_17, L_18, L_19, L_20, L_30, L_31, L_32, L_35, L_37, L_39, L_40, L_43, L_48, L_57, L_59, L_60, L_97, L_99, L_100, L_120, L_122, L_127, L_160, L_200, L_255, L_999, L_1000, L_100000, L_1000000, L_24, L_33, L_34, L_36, L_38, L_69, L_70, L_72, L_214, L_215, L_288, L_174, L_175, L_206, LL_0, LL_1, LL_2, LL_3, LL_5, LL_7, LL_9, LL_10, LL_11, LL_12, LL_19, LL_20, LL_30, LL_39, LL_48, LL_57, LL_60, LL_97, LL_99, LL_122, LL_127, LL_999, md_0, md_1, md_t, md_12, md_13, md_2, md_4, md_6, md_7, md_8, md_9, md_10, md_11, md_s, md_s2, md_s6, md_s7, md_s8, md_s9, md_s10, md_s11, P0.r hq]
          have hbk : BK M rp (nI tr) 5 (lxS n c p) (mdS M rp (nI tr) (nI 5) (nI (lxS n c p)) (nI (lxE n c p)) (nI (lxS n c p)) (nI 1) (nI 0)) := ⟨_, _, _, _, rfl⟩
          obtain ⟨G', td', g1, g2⟩ := C21_brk hbk (by decide) (by decide) (nI (RO8 i))
          rw [h16, obs, h20, obs, g1]
          exact Or.inl ⟨5, _, rp, td', _, G', _, _, _, _, by decide, by decide, rfl, rfl, g2⟩
        · rw [if_neg htm, if_pos (show nI 0 = 0 from rfl)]
          have h16 : C16 (mdS M rp (nI tr) (nI 0) bp (nI (lxE n c p)) (nI (lxS n c p)) (nI 1) (nI 0)) (nI (RO8 i)) = some (mdS M rp (nI tr) (nI 0) bp (nI (lxE n c p)) (nI (lxS n c p)) (nI 1) (nI 0)) := by
            unfold C16
            by_cases h4' : i < 4
            · have hro : RO8 i = i := by
                rcases (show i = 0 ∨ i = 1 ∨ i = 2 ∨ i = 3 by omega) with rfl | rfl | rfl | rfl <;> rfl
              rw [hro]
              simp (disch := omega) only [↓reduceIte, obs, esc_il, esc_ir, leT, leF, ltT, ltF, eqT, eqF, nleT, nleF, nltT, nltF, neqT, neqF, nI_add, pk_mul, ald_nI, ast_nI, irm_nI, idv_nI, zbT, zbF, in_T, in_F1, in_F2, nI_l, sI_1, sI_2, sA_1, sA_2, subK, add0, sub0, or0, lN_add, lN_mul, L_0, L_1, L_2, L_3, L_4, L_5, L_6, L_7, L_8, L_9, L_10, L_11, L_12, L_13, L_14, L_15, L_16, L_17, L_18, L_19, L_20, L_30, L_31, L_32, L_35, L_37, L_39, L_40, L_43, L_48, L_57, L_59, L_60, L_97, L_99, L_100, L_120, L_122, L_127, L_160, L_200, L_255, L_999, L_1000, L_100000, L_1000000, L_24, L_33, L_34, L_36, L_38, L_69, L_70, L_72, L_214, L_215, L_288, L_174, L_175, L_206, LL_0, LL_1, LL_2, LL_3, LL_5, LL_7, LL_9, LL_10, LL_11, LL_12, LL_19, LL_20, LL_30, LL_39, LL_48, LL_57, LL_60, LL_97, LL_99, LL_122, LL_127, LL_999, md_0, md_1, md_t, md_12, md_13, md_2, md_4, md_6, md_7, md_8, md_9, md_10, md_11, md_s, md_s2, md_s6, md_s7, md_s8, md_s9, md_s10, md_s11, P0.b hq]
            · by_cases h7 : i = 7
              · subst h7
                rw [show RO8 7 = 4 from rfl]
                simp (disch := omega) only [↓reduceIte, obs, esc_il, esc_ir, leT, leF, ltT, ltF, eqT, eqF, nleT, nleF, nltT, nltF, neqT, neqF, nI_add, pk_mul, ald_nI, ast_nI, irm_nI, idv_nI, zbT, zbF, in_T, in_F1, in_F2, nI_l, sI_1, sI_2, sA_1, sA_2, subK, add0, sub0, or0, lN_add, lN_mul, L_0, L_1, L_2, L_3, L_4, L_5, L_6, L_7, L_8, L_9, L_10, L_11, L_12, L_13, L_14, L_15, L_16, L_17, L_18, L_19, L_20, L_30, L_31, L_32, L_35, L_37, L_39, L_40, L_43, L_48, L_57, L_59, L_60, L_97, L_99, L_100, L_120, L_122, L_127, L_160, L_200, L_255, L_999, L_1000, L_100000, L_1000000, L_24, L_33, L_34, L_36, L_38, L_69, L_70, L_72, L_214, L_215, L_288, L_174, L_175, L_206, LL_0, LL_1, LL_2, LL_3, LL_5, LL_7, LL_9, LL_10, LL_11, LL_12, LL_19, LL_20, LL_30, LL_39, LL_48, LL_57, LL_60, LL_97, LL_99, LL_122, LL_127, LL_999, md_0, md_1, md_t, md_12, md_13, md_2, md_4, md_6, md_7, md_8, md_9, md_10, md_11, md_s, md_s2, md_s6, md_s7, md_s8, md_s9, md_s10, md_s11, P0.r hq]
              · have hm5 : 5 ≤ RO8 i := by
                  rcases (show i = 4 ∨ i = 5 ∨ i = 6 by omega) with rfl | rfl | rfl <;> decide
                simp (disch := omega) only [↓reduceIte, obs, esc_il, esc_ir, leT, leF, ltT, ltF, eqT, eqF, nleT, nleF, nltT, nltF, neqT, neqF, nI_add, pk_mul, ald_nI, ast_nI, irm_nI, idv_nI, zbT, zbF, in_T, in_F1, in_F2, nI_l, sI_1, sI_2, sA_1, sA_2, subK, add0, sub0, or0, lN_add, lN_mul, L_0, L_1, L_2, L_3, L_4, L_5, L_6, L_7, L_8, L_9, L_10, L_11, L_12, L_13, L_14, L_15, L_16, L_17, L_18, L_19, L_20, L_30, L_31, L_32, L_35, L_37, L_39, L_40, L_43, L_48, L_57, L_59, L_60, L_97, L_99, L_100, L_120, L_122, L_127, L_160, L_200, L_255, L_999, L_1000, L_100000, L_1000000, L_24, L_33, L_34, L_36, L_38, L_69, L_70, L_72, L_214, L_215, L_288, L_174, L_175, L_206, LL_0, LL_1, LL_2, LL_3, LL_5, LL_7, LL_9, LL_10, LL_11, LL_12, LL_19, LL_20, LL_30, LL_39, LL_48, LL_57, LL_60, LL_97, LL_99, LL_122, LL_127, LL_999]
          obtain ⟨G1, g1, g2⟩ := token8 hT k2 rp (tlZ (nI tr) (RO8 i)) bp (nI (lxS n c p)) (nI 1) (nI 0)
          have hln := line_e hT hi k2 g2 hv hq hb (by omega) (by omega) (nI 0) fp (nI 1) (nI (lxS n c p)) nu (nI tv)
          rw [h16, obs, h20, obs]
          have hC21 : C21 (mdS M rp (nI tr) (nI 0) bp (nI (lxE n c p)) (nI (lxS n c p)) (nI 1) (nI 0)) (nI (RO8 i)) = if (G1.2 6) ≤ 0 then Option.bind (mX8_readMore G1 (nI (RO8 i))) FIN8 else some G1 := by
            unfold C21
            rw [md_2, md_s2]
            show Option.bind (mX8_step (mdS M rp (tlZ (nI tr) (RO8 i)) (nI 0) bp (nI (lxE n c p)) (nI (lxS n c p)) (nI 1) (nI 0))) _ = _
            rw [g1, obs]
          rw [hC21]
          by_cases hx4 : lxT n c (lxE n c p) = 4
          · have hne : nEr n c (lxE n c p) (TN 0 i) (TN 1 i) = 1 := if_pos hx4
            obtain ⟨tk', st', sp', nu', kk⟩ := cls_bad1 hT hi k2 (by rw [hne]; decide) t (nI 0) fp (nI 1) (nI (lxS n c p)) nu (nI tv)
            rw [hne] at kk
            rcases g2 with ⟨-, tk2, va2, rfl⟩ | ⟨h, -⟩
            · rw [kk, md_6, if_neg (show ¬ nI 1 ≤ 0 by decide)]
              exact Or.inl ⟨1, _, rp, _, _, _, _, _, _, _, by decide, by decide, rfl, rfl, ⟨_, _, _, _, rfl⟩⟩
            · exact absurd hx4 h
          · have hg6 : G1.2 6 = nI 0 := by
              rcases g2 with ⟨h, -⟩ | ⟨-, bp2, rfl⟩
              · exact absurd h hx4
              · rfl
            rw [hg6, if_pos (show nI 0 ≤ 0 by decide)]
            rcases hln with ⟨e, a, rp', G', tk', st', sp', nu', l1, l2, l3, l4, l5⟩ | ⟨p', rp', b', t', G', tk', st', nu', l1, l2, l3, l4, l5, l6, l7, l8, l9⟩
            · exact Or.inl ⟨e, a, rp', _, _, G', tk', st', sp', nu', l1, l2, l3, l4, l5⟩
            · rw [tlZ_e hTD.1 hi] at l3
              rw [tlZ_e hTD.2.1 hr.1] at l5
              have k3' := k3 h0
              exact Or.inr ⟨p', rp', b', t', G', tk', st', nu', _, _, by omega, l2, l3, l4, l5, l6, l7, l8, l9, TD_s hTD hi⟩
    · have hin : mX8_in (-nI 4).toInt64 (0 : Int64) (7 : Int64) = some (nI 0) := in_ng (a := 0) (by decide) (by decide) _
      rw [rd_5, if_pos (show nI 1 = 1 from rfl), e1, obs, obs, if_pos (show -nI 4 < 0 by decide), L_2, RF_e t _ _ _ _ _ (by decide) (by decide), if_neg (by decide), e2, obs, hin, obs, if_pos (show nI 0 = 0 from rfl)]
      refine Or.inl ⟨2, _, rp, nI tr, _, mdS M rp (nI tr) (nI 2) (nI (lxS n c p)) (nI (lxE n c p)) (nI (lxS n c p)) (nI 1) (nI 0), _, _, _, _, by decide, by decide, rfl, ?_, ⟨_, _, _, _, rfl⟩⟩
      unfold mX8_fails
      simp (disch := omega) only [↓reduceIte, obs, esc_il, esc_ir, leT, leF, ltT, ltF, eqT, eqF, nleT, nleF, nltT, nltF, neqT, neqF, nI_add, pk_mul, ald_nI, ast_nI, irm_nI, idv_nI, zbT, zbF, in_T, in_F1, in_F2, nI_l, sI_1, sI_2, sA_1, sA_2, subK, add0, sub0, or0, lN_add, lN_mul, L_0, L_1, L_2, L_3, L_4, L_5, L_6, L_7, L_8, L_9, L_10, L_11, L_12, L_13, L_14, L_15, L_16, L_17, L_18, L_19, L_20, L_30, L_31, L_32, L_35, L_37, L_39, L_40, L_43, L_48, L_57, L_59, L_60, L_97, L_99, L_100, L_120, L_122, L_127, L_160, L_200, L_255, L_999, L_1000, L_100000, L_1000000, L_24, L_33, L_34, L_36, L_38, L_69, L_70, L_72, L_214, L_215, L_288, L_174, L_175, L_206, LL_0, LL_1, LL_2, LL_3, LL_5, LL_7, LL_9, LL_10, LL_11, LL_12, LL_19, LL_20, LL_30, LL_39, LL_48, LL_57, LL_60, LL_97, LL_99, LL_122, LL_127, LL_999, md_0, md_1, md_t, md_12, md_13, md_2, md_4, md_6, md_7, md_8, md_9, md_10, md_11, md_s, md_s2, md_s6, md_s7, md_s8, md_s9, md_s10, md_s11]
  · have hin : mX8_in (-nI 4).toInt64 (0 : Int64) (7 : Int64) = some (nI 0) := in_ng (a := 0) (by decide) (by decide) _
    have hnn := noname_e (M := M) rp (nI tr) (nI 0) bp (nI (lxE n c p)) (nI (lxS n c p)) (nI (if lxT n c p = 2 then lxV n c p else 0)) (t := lxT n c p) (by omega) h1
    rw [rd_5, if_neg (show ¬ nI (lxT n c p) = (1 : Int32) from fun z => h1 ((nI_eq (b := 1) (by omega) (by decide)).mp z)), obs, if_pos (show (-4 : Int32) < 0 by decide), L_2, RF_e t _ _ _ _ _ (by omega) (by decide), if_neg h4, hnn, obs, hin, obs, if_pos (show nI 0 = 0 from rfl)]
    refine Or.inl ⟨2, _, rp, nI tr, _, mdS M rp (nI tr) (nI 2) (nI (lxS n c p)) (nI (lxE n c p)) (nI (lxS n c p)) (nI (lxT n c p)) (nI (if lxT n c p = 2 then lxV n c p else 0)), _, _, _, _, by decide, by decide, rfl, ?_, ⟨_, _, _, _, rfl⟩⟩
    unfold mX8_fails
    simp only [md_6, md_s6, md_s7, md_9, obs]
    rfl
end
