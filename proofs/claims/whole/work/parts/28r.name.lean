/-! names -/
def LW : List (List Nat) := [[112, 108, 97, 105, 110], [99, 111, 110, 102, 105, 100, 101, 114], [99, 104, 105, 108, 100], [99, 108, 101, 114, 107], [119, 97, 108, 108], [119, 105, 110, 100, 111, 119], [117, 112, 115, 105, 100, 101], [114, 111, 108, 108]]
def lw (i k : Nat) : Nat := (LW.getD i []).getD k 0
def PI8 (m : Nat) : Nat := [0, 1, 2, 3, 7, 4, 5, 6].getD m 0
def RO8 (i : Nat) : Nat := [0, 1, 2, 3, 5, 6, 7, 4].getD i 0
theorem tl_b : ∀ i, i < 8 → 4 ≤ txL.getD i 0 ∧ txL.getD i 0 ≤ 8 := by decide
theorem chO_e : ∀ i, i < 8 → ∀ k, k < 8 → k < txL.getD i 0 → chO i (nI k) = some (nI (lw i k)) := by decide +kernel
theorem lw_b : ∀ i, i < 8 → ∀ k, k < 8 → lw i k < 128 := by decide +kernel
theorem cut_e : ∀ m, m < 8 → lf CUTS 9 (m + 1) - lf CUTS 9 m = nI (txL.getD (PI8 m) 0) := by decide +kernel
theorem let_e : ∀ m, m < 8 → ∀ k, k < 8 → k < txL.getD (PI8 m) 0 → ald 43 (lf LETS 43) (lf CUTS 9 m + nI k) = some (nI (lw (PI8 m) k)) := by decide +kernel
theorem sig_e : ∀ i, i < 8 → ∀ j, j < 8 → txL.getD i 0 = txL.getD j 0 → lw i 0 = lw j 0 → lw i 1 = lw j 1 → i = j := by decide +kernel
theorem pi_e : ∀ m, m < 8 → PI8 m < 8 ∧ RO8 (PI8 m) = m := by decide
theorem ro_e : ∀ i, i < 8 → RO8 i < 8 ∧ PI8 (RO8 i) = i := by decide
theorem alB_get {P : Nat → Bool} : ∀ n k, alB P n = true → k < n → P k = true
  | 0, k, _, h => absurd h (Nat.not_lt_zero _)
  | n + 1, k, h, hk => by
    rw [alB, Bool.and_eq_true] at h
    by_cases e : k = n
    · rw [e]; exact h.2
    · exact alB_get n k h.1 (by omega)
def wmP (c : Nat → Nat) (s i k : Nat) : Bool := c (s + k) == lw i k
def wmB (c : Nat → Nat) (s e i : Nat) : Bool := decide (e - s = txL.getD i 0) && alB (wmP c s i) (txL.getD i 0)
theorem wm_uniq {c : Nat → Nat} {s e i j : Nat} (hi : i < 8) (hj : j < 8) (h1 : wmB c s e i = true) (h2 : wmB c s e j = true) : i = j := by
  unfold wmB at h1 h2
  rw [Bool.and_eq_true, decide_eq_true_eq] at h1 h2
  have ti := tl_b i hi
  have tj := tl_b j hj
  have a0 := alB_get _ 0 h1.2 (by omega)
  have a1 := alB_get _ 1 h1.2 (by omega)
  have b0 := alB_get _ 0 h2.2 (by omega)
  have b1 := alB_get _ 1 h2.2 (by omega)
  unfold wmP at a0 a1 b0 b1
  rw [beq_iff_eq] at a0 a1 b0 b1
  exact sig_e i hi j hj (by omega) (by omega) (by omega)
section
variable {rd M : GS} {n : Nat} {c : Nat → Nat}
theorem isWord_e (hT : Tp rd M n c) {s e : Nat} (hse : s ≤ e) (hen : e ≤ n) (fa fp tk nu lt : Int32) {i : Nat} (hi : i < 8) : mX5_isWord (rdS rd fa fp tk (nI s) (nI e) nu lt) i = some (nI (bN (wmB c s e i))) := by
  have hn := hT.le
  have ti := tl_b i hi
  unfold mX5_isWord
  simp (disch := omega) only [rd_6, rd_7, subK]
  by_cases hl : e - s = txL.getD i 0
  · have hw : wmB c s e i = alB (wmP c s i) (txL.getD i 0) := by unfold wmB; rw [decide_eq_true hl, Bool.true_and]
    rw [if_pos (by rw [hl]), hw]
    have hL : ∃ x, whO (mX5_isWord_l24 (rdS rd fa fp tk (nI s) (nI e) nu lt) i) FU (0 : Int32) = some x ∧ (((∃ z, x = .inl z) ∧ alB (wmP c s i) (txL.getD i 0) = true) ∨ (x = .inr (nI 0) ∧ alB (wmP c s i) (txL.getD i 0) = false)) := by
      refine whO_inv (fun (k : Nat) (x : Int32) => x = nI k ∧ alB (wmP c s i) k = true) (txL.getD i 0) _ ?_ ?_ _ ⟨rfl, rfl⟩ (by omega)
      · rintro k x hlt ⟨rfl, e1⟩
        have hcc := hT.ch (s + k) (by omega)
        have hlw := lw_b i hi k (by omega)
        have hch := chO_e i hi k (by omega) hlt
        unfold mX5_isWord_l24
        by_cases hc : c (s + k) = lw i k
        · left
          refine ⟨nI (k + 1), ?_, rfl, ?_⟩
          · simp (disch := omega) only [↓reduceIte, obs, esc_il, esc_ir, leT, leF, ltT, ltF, eqT, eqF, nleT, nleF, nltT, nltF, neqT, neqF, nI_add, pk_mul, ald_nI, ast_nI, irm_nI, idv_nI, zbT, zbF, in_T, in_F1, in_F2, nI_l, sI_1, sI_2, sA_1, sA_2, subK, add0, sub0, or0, lN_add, lN_mul, L_0, L_1, L_2, L_3, L_4, L_5, L_6, L_7, L_8, L_9, L_10, L_11, L_12, L_13, L_14, L_15, L_16, L_17, L_18, L_19, L_20, L_30, L_31, L_32, L_35, L_37, L_39, L_40, L_43, L_48, L_57, L_59, L_60, L_97, L_99, L_100, L_120, L_122, L_127, L_160, L_200, L_255, L_999, L_1000, L_100000, L_1000000, L_24, L_33, L_34, L_36, L_38, L_69, L_70, L_72, L_214, L_215, L_288, L_174, L_175, L_206, LL_0, LL_1, LL_2, LL_3, LL_5, LL_7, LL_9, LL_10, LL_11, LL_12, LL_19, LL_20, LL_30, LL_39, LL_48, LL_57, LL_60, LL_97, LL_99, LL_122, LL_127, LL_999, rd_6, byte7 hT, bt_y, hch, hc]
          · rw [alB_y (by unfold wmP; rw [hc]; exact beq_self_eq_true _)]; exact e1
        · right
          refine ⟨_, ?_, Or.inr ⟨rfl, ?_⟩⟩
          · simp (disch := omega) only [↓reduceIte, obs, esc_il, esc_ir, leT, leF, ltT, ltF, eqT, eqF, nleT, nleF, nltT, nltF, neqT, neqF, nI_add, pk_mul, ald_nI, ast_nI, irm_nI, idv_nI, zbT, zbF, in_T, in_F1, in_F2, nI_l, sI_1, sI_2, sA_1, sA_2, subK, add0, sub0, or0, lN_add, lN_mul, L_0, L_1, L_2, L_3, L_4, L_5, L_6, L_7, L_8, L_9, L_10, L_11, L_12, L_13, L_14, L_15, L_16, L_17, L_18, L_19, L_20, L_30, L_31, L_32, L_35, L_37, L_39, L_40, L_43, L_48, L_57, L_59, L_60, L_97, L_99, L_100, L_120, L_122, L_127, L_160, L_200, L_255, L_999, L_1000, L_100000, L_1000000, L_24, L_33, L_34, L_36, L_38, L_69, L_70, L_72, L_214, L_215, L_288, L_174, L_175, L_206, LL_0, LL_1, LL_2, LL_3, LL_5, LL_7, LL_9, LL_10, LL_11, LL_12, LL_19, LL_20, LL_30, LL_39, LL_48, LL_57, LL_60, LL_97, LL_99, LL_122, LL_127, LL_999, rd_6, byte7 hT, bt_y, hch]
          · have := alB_z (alB_n (P := wmP c s i) (n := k) (by unfold wmP; rw [beq_eq_false_iff_ne]; exact hc)) (txL.getD i 0 - (k + 1))
            rwa [show k + 1 + (txL.getD i 0 - (k + 1)) = txL.getD i 0 by omega] at this
      · rintro x ⟨rfl, e1⟩
        refine ⟨_, ?_, Or.inl ⟨⟨nI (txL.getD i 0), rfl⟩, e1⟩⟩
        unfold mX5_isWord_l24
        rw [if_pos (nI_le (Nat.le_refl _) (by omega))]
    obtain ⟨x, x1, x2⟩ := hL
    rw [x1, obs]
    exact esc_all x2
  · have hw : wmB c s e i = false := by unfold wmB; rw [decide_eq_false hl, Bool.false_and]
    rw [if_neg (fun z => hl ((nI_eq (by omega) (by omega)).mp z)), hw]
    rfl
theorem name51_e (hT : Tp rd M n c) (hC : M.1 12 = lf CUTS 9) (hLt : M.1 13 = lf LETS 43) {s e : Nat} (hse : s ≤ e) (hen : e ≤ n) (rp : Nat → Int32) (td br bp tk va : Int32) {m : Nat} (hm : m < 8) : ∃ x, whO (mX8_nameHere_l51 (mdS M rp td br bp (nI e) (nI s) tk va) (nI m)) FU (nI (if e - s = txL.getD (PI8 m) 0 then 1 else 0), nI 0) = some x ∧ x.1 = nI (bN (wmB c s e (PI8 m))) := by
  have hn := hT.le
  have ti := tl_b (PI8 m) (pi_e m hm).1
  by_cases hl : e - s = txL.getD (PI8 m) 0
  · have hw : wmB c s e (PI8 m) = alB (wmP c s (PI8 m)) (txL.getD (PI8 m) 0) := by unfold wmB; rw [decide_eq_true hl, Bool.true_and]
    rw [if_pos hl, hw]
    refine whO_inv (fun (k : Nat) (x : Int32 × Int32) => x = (nI (bN (alB (wmP c s (PI8 m)) k)), nI k)) (txL.getD (PI8 m) 0) _ ?_ ?_ _ rfl (by omega)
    · rintro k x hlt rfl
      have hcc := hT.ch (s + k) (by omega)
      have hlw := lw_b (PI8 m) (pi_e m hm).1 k (by omega)
      have hle := let_e m hm k (by omega) hlt
      unfold mX8_nameHere_l51
      cases he : alB (wmP c s (PI8 m)) k
      · right
        have := alB_z he (txL.getD (PI8 m) 0 - k)
        rw [show k + (txL.getD (PI8 m) 0 - k) = txL.getD (PI8 m) 0 by omega] at this
        refine ⟨(nI 0, nI k), ?_, by rw [this]; rfl⟩
        simp (disch := omega) only [↓reduceIte, obs, esc_il, esc_ir, leT, leF, ltT, ltF, eqT, eqF, nleT, nleF, nltT, nltF, neqT, neqF, nI_add, pk_mul, ald_nI, ast_nI, irm_nI, idv_nI, zbT, zbF, in_T, in_F1, in_F2, nI_l, sI_1, sI_2, sA_1, sA_2, subK, add0, sub0, or0, lN_add, lN_mul, L_0, L_1, L_2, L_3, L_4, L_5, L_6, L_7, L_8, L_9, L_10, L_11, L_12, L_13, L_14, L_15, L_16, L_17, L_18, L_19, L_20, L_30, L_31, L_32, L_35, L_37, L_39, L_40, L_43, L_48, L_57, L_59, L_60, L_97, L_99, L_100, L_120, L_122, L_127, L_160, L_200, L_255, L_999, L_1000, L_100000, L_1000000, L_24, L_33, L_34, L_36, L_38, L_69, L_70, L_72, L_214, L_215, L_288, L_174, L_175, L_206, LL_0, LL_1, LL_2, LL_3, LL_5, LL_7, LL_9, LL_10, LL_11, LL_12, LL_19, LL_20, LL_30, LL_39, LL_48, LL_57, LL_60, LL_97, LL_99, LL_122, LL_127, LL_999, bN, Bool.false_eq_true]
      · left
        refine ⟨_, ?_, rfl⟩
        rw [alB, he, Bool.true_and]
        by_cases hc : c (s + k) = lw (PI8 m) k
        · have e2 : wmP c s (PI8 m) k = true := by unfold wmP; rw [hc]; exact beq_self_eq_true _
          simp (disch := omega) only [↓reduceIte, obs, esc_il, esc_ir, leT, leF, ltT, ltF, eqT, eqF, nleT, nleF, nltT, nltF, neqT, neqF, nI_add, pk_mul, ald_nI, ast_nI, irm_nI, idv_nI, zbT, zbF, in_T, in_F1, in_F2, nI_l, sI_1, sI_2, sA_1, sA_2, subK, add0, sub0, or0, lN_add, lN_mul, L_0, L_1, L_2, L_3, L_4, L_5, L_6, L_7, L_8, L_9, L_10, L_11, L_12, L_13, L_14, L_15, L_16, L_17, L_18, L_19, L_20, L_30, L_31, L_32, L_35, L_37, L_39, L_40, L_43, L_48, L_57, L_59, L_60, L_97, L_99, L_100, L_120, L_122, L_127, L_160, L_200, L_255, L_999, L_1000, L_100000, L_1000000, L_24, L_33, L_34, L_36, L_38, L_69, L_70, L_72, L_214, L_215, L_288, L_174, L_175, L_206, LL_0, LL_1, LL_2, LL_3, LL_5, LL_7, LL_9, LL_10, LL_11, LL_12, LL_19, LL_20, LL_30, LL_39, LL_48, LL_57, LL_60, LL_97, LL_99, LL_122, LL_127, LL_999, md_0, md_1, md_t, md_12, md_13, md_2, md_4, md_6, md_7, md_8, md_9, md_10, md_11, md_s, md_s2, md_s6, md_s7, md_s8, md_s9, md_s10, md_s11, bN, e2, byte8 hT, bt_y, hC, hLt, hle, hc]
        · have e2 : wmP c s (PI8 m) k = false := by unfold wmP; rw [beq_eq_false_iff_ne]; exact hc
          simp (disch := omega) only [↓reduceIte, obs, esc_il, esc_ir, leT, leF, ltT, ltF, eqT, eqF, nleT, nleF, nltT, nltF, neqT, neqF, nI_add, pk_mul, ald_nI, ast_nI, irm_nI, idv_nI, zbT, zbF, in_T, in_F1, in_F2, nI_l, sI_1, sI_2, sA_1, sA_2, subK, add0, sub0, or0, lN_add, lN_mul, L_0, L_1, L_2, L_3, L_4, L_5, L_6, L_7, L_8, L_9, L_10, L_11, L_12, L_13, L_14, L_15, L_16, L_17, L_18, L_19, L_20, L_30, L_31, L_32, L_35, L_37, L_39, L_40, L_43, L_48, L_57, L_59, L_60, L_97, L_99, L_100, L_120, L_122, L_127, L_160, L_200, L_255, L_999, L_1000, L_100000, L_1000000, L_24, L_33, L_34, L_36, L_38, L_69, L_70, L_72, L_214, L_215, L_288, L_174, L_175, L_206, LL_0, LL_1, LL_2, LL_3, LL_5, LL_7, LL_9, LL_10, LL_11, LL_12, LL_19, LL_20, LL_30, LL_39, LL_48, LL_57, LL_60, LL_97, LL_99, LL_122, LL_127, LL_999, md_0, md_1, md_t, md_12, md_13, md_2, md_4, md_6, md_7, md_8, md_9, md_10, md_11, md_s, md_s2, md_s6, md_s7, md_s8, md_s9, md_s10, md_s11, bN, e2, byte8 hT, bt_y, hC, hLt, hle, Bool.false_eq_true]
    · rintro x rfl
      refine ⟨(nI (bN (alB (wmP c s (PI8 m)) (txL.getD (PI8 m) 0))), nI (txL.getD (PI8 m) 0)), ?_, rfl⟩
      unfold mX8_nameHere_l51
      have hb := bN_le (alB (wmP c s (PI8 m)) (txL.getD (PI8 m) 0))
      by_cases h0 : bN (alB (wmP c s (PI8 m)) (txL.getD (PI8 m) 0)) = 0
      · simp (disch := omega) only [↓reduceIte, obs, esc_il, esc_ir, leT, leF, ltT, ltF, eqT, eqF, nleT, nleF, nltT, nltF, neqT, neqF, nI_add, pk_mul, ald_nI, ast_nI, irm_nI, idv_nI, zbT, zbF, in_T, in_F1, in_F2, nI_l, sI_1, sI_2, sA_1, sA_2, subK, add0, sub0, or0, lN_add, lN_mul, L_0, L_1, L_2, L_3, L_4, L_5, L_6, L_7, L_8, L_9, L_10, L_11, L_12, L_13, L_14, L_15, L_16, L_17, L_18, L_19, L_20, L_30, L_31, L_32, L_35, L_37, L_39, L_40, L_43, L_48, L_57, L_59, L_60, L_97, L_99, L_100, L_120, L_122, L_127, L_160, L_200, L_255, L_999, L_1000, L_100000, L_1000000, L_24, L_33, L_34, L_36, L_38, L_69, L_70, L_72, L_214, L_215, L_288, L_174, L_175, L_206, LL_0, LL_1, LL_2, LL_3, LL_5, LL_7, LL_9, LL_10, LL_11, LL_12, LL_19, LL_20, LL_30, LL_39, LL_48, LL_57, LL_60, LL_97, LL_99, LL_122, LL_127, LL_999]
      · simp (disch := omega) only [↓reduceIte, obs, esc_il, esc_ir, leT, leF, ltT, ltF, eqT, eqF, nleT, nleF, nltT, nltF, neqT, neqF, nI_add, pk_mul, ald_nI, ast_nI, irm_nI, idv_nI, zbT, zbF, in_T, in_F1, in_F2, nI_l, sI_1, sI_2, sA_1, sA_2, subK, add0, sub0, or0, lN_add, lN_mul, L_0, L_1, L_2, L_3, L_4, L_5, L_6, L_7, L_8, L_9, L_10, L_11, L_12, L_13, L_14, L_15, L_16, L_17, L_18, L_19, L_20, L_30, L_31, L_32, L_35, L_37, L_39, L_40, L_43, L_48, L_57, L_59, L_60, L_97, L_99, L_100, L_120, L_122, L_127, L_160, L_200, L_255, L_999, L_1000, L_100000, L_1000000, L_24, L_33, L_34, L_36, L_38, L_69, L_70, L_72, L_214, L_215, L_288, L_174, L_175, L_206, LL_0, LL_1, LL_2, LL_3, LL_5, LL_7, LL_9, LL_10, LL_11, LL_12, LL_19, LL_20, LL_30, LL_39, LL_48, LL_57, LL_60, LL_97, LL_99, LL_122, LL_127, LL_999, md_0, md_1, md_t, md_12, md_13, md_2, md_4, md_6, md_7, md_8, md_9, md_10, md_11, md_s, md_s2, md_s6, md_s7, md_s8, md_s9, md_s10, md_s11]
  · have hw : wmB c s e (PI8 m) = false := by unfold wmB; rw [decide_eq_false hl, Bool.false_and]
    rw [if_neg hl, hw]
    refine ⟨(nI 0, nI 0), ?_, rfl⟩
    refine whO_for (fun _ => (nI 0, nI 0)) 0 _ rfl (fun i h => absurd h (Nat.not_lt_zero _)) ?_ (by decide)
    unfold mX8_nameHere_l51
    simp (disch := omega) only [↓reduceIte, obs, esc_il, esc_ir, leT, leF, ltT, ltF, eqT, eqF, nleT, nleF, nltT, nltF, neqT, neqF, nI_add, pk_mul, ald_nI, ast_nI, irm_nI, idv_nI, zbT, zbF, in_T, in_F1, in_F2, nI_l, sI_1, sI_2, sA_1, sA_2, subK, add0, sub0, or0, lN_add, lN_mul, L_0, L_1, L_2, L_3, L_4, L_5, L_6, L_7, L_8, L_9, L_10, L_11, L_12, L_13, L_14, L_15, L_16, L_17, L_18, L_19, L_20, L_30, L_31, L_32, L_35, L_37, L_39, L_40, L_43, L_48, L_57, L_59, L_60, L_97, L_99, L_100, L_120, L_122, L_127, L_160, L_200, L_255, L_999, L_1000, L_100000, L_1000000, L_24, L_33, L_34, L_36, L_38, L_69, L_70, L_72, L_214, L_215, L_288, L_174, L_175, L_206, LL_0, LL_1, LL_2, LL_3, LL_5, LL_7, LL_9, LL_10, LL_11, LL_12, LL_19, LL_20, LL_30, LL_39, LL_48, LL_57, LL_60, LL_97, LL_99, LL_122, LL_127, LL_999]
theorem name2_e (hT : Tp rd M n c) (hC : M.1 12 = lf CUTS 9) (hLt : M.1 13 = lf LETS 43) {s e : Nat} (hse : s ≤ e) (hen : e ≤ n) (rp : Nat → Int32) (td br bp va : Int32) {m : Nat} (hm : m < 8) : mX8_nameHere_l2 (mdS M rp td br bp (nI e) (nI s) (nI 1) va) (nI m) = if wmB c s e (PI8 m) then some (.inr (.inr (nI m))) else some (.inl (nI (m + 1))) := by
  have hn := hT.le
  have ti := tl_b (PI8 m) (pi_e m hm).1
  obtain ⟨x, x1, x2⟩ := name51_e hT hC hLt hse hen rp td br bp (nI 1) va hm
  have hif : (if nI (e - s) = nI (txL.getD (PI8 m) 0) then some (nI 1) else some (nI 0)) = some (nI (if e - s = txL.getD (PI8 m) 0 then 1 else 0)) := by
    by_cases h : e - s = txL.getD (PI8 m) 0
    · rw [if_pos h, if_pos (by rw [h])]
    · rw [if_neg h, if_neg (fun z => h ((nI_eq (by omega) (by omega)).mp z))]
  have hcu := cut_e m hm
  unfold mX8_nameHere_l2
  simp (disch := omega) only [↓reduceIte, obs, esc_il, esc_ir, leT, leF, ltT, ltF, eqT, eqF, nleT, nleF, nltT, nltF, neqT, neqF, nI_add, pk_mul, ald_nI, ast_nI, irm_nI, idv_nI, zbT, zbF, in_T, in_F1, in_F2, nI_l, sI_1, sI_2, sA_1, sA_2, subK, add0, sub0, or0, lN_add, lN_mul, L_0, L_1, L_2, L_3, L_4, L_5, L_6, L_7, L_8, L_9, L_10, L_11, L_12, L_13, L_14, L_15, L_16, L_17, L_18, L_19, L_20, L_30, L_31, L_32, L_35, L_37, L_39, L_40, L_43, L_48, L_57, L_59, L_60, L_97, L_99, L_100, L_120, L_122, L_127, L_160, L_200, L_255, L_999, L_1000, L_100000, L_1000000, L_24, L_33, L_34, L_36, L_38, L_69, L_70, L_72, L_214, L_215, L_288, L_174, L_175, L_206, LL_0, LL_1, LL_2, LL_3, LL_5, LL_7, LL_9, LL_10, LL_11, LL_12, LL_19, LL_20, LL_30, LL_39, LL_48, LL_57, LL_60, LL_97, LL_99, LL_122, LL_127, LL_999, md_0, md_1, md_t, md_12, md_13, md_2, md_4, md_6, md_7, md_8, md_9, md_10, md_11, md_s, md_s2, md_s6, md_s7, md_s8, md_s9, md_s10, md_s11, hC, hcu]
  rw [hif, obs, x1, obs, x2]
  cases hb : wmB c s e (PI8 m)
  · simp (disch := omega) only [↓reduceIte, obs, esc_il, esc_ir, leT, leF, ltT, ltF, eqT, eqF, nleT, nleF, nltT, nltF, neqT, neqF, nI_add, pk_mul, ald_nI, ast_nI, irm_nI, idv_nI, zbT, zbF, in_T, in_F1, in_F2, nI_l, sI_1, sI_2, sA_1, sA_2, subK, add0, sub0, or0, lN_add, lN_mul, L_0, L_1, L_2, L_3, L_4, L_5, L_6, L_7, L_8, L_9, L_10, L_11, L_12, L_13, L_14, L_15, L_16, L_17, L_18, L_19, L_20, L_30, L_31, L_32, L_35, L_37, L_39, L_40, L_43, L_48, L_57, L_59, L_60, L_97, L_99, L_100, L_120, L_122, L_127, L_160, L_200, L_255, L_999, L_1000, L_100000, L_1000000, L_24, L_33, L_34, L_36, L_38, L_69, L_70, L_72, L_214, L_215, L_288, L_174, L_175, L_206, LL_0, LL_1, LL_2, LL_3, LL_5, LL_7, LL_9, LL_10, LL_11, LL_12, LL_19, LL_20, LL_30, LL_39, LL_48, LL_57, LL_60, LL_97, LL_99, LL_122, LL_127, LL_999, bN, Bool.false_eq_true]
  · simp (disch := omega) only [↓reduceIte, obs, esc_il, esc_ir, leT, leF, ltT, ltF, eqT, eqF, nleT, nleF, nltT, nltF, neqT, neqF, nI_add, pk_mul, ald_nI, ast_nI, irm_nI, idv_nI, zbT, zbF, in_T, in_F1, in_F2, nI_l, sI_1, sI_2, sA_1, sA_2, subK, add0, sub0, or0, lN_add, lN_mul, L_0, L_1, L_2, L_3, L_4, L_5, L_6, L_7, L_8, L_9, L_10, L_11, L_12, L_13, L_14, L_15, L_16, L_17, L_18, L_19, L_20, L_30, L_31, L_32, L_35, L_37, L_39, L_40, L_43, L_48, L_57, L_59, L_60, L_97, L_99, L_100, L_120, L_122, L_127, L_160, L_200, L_255, L_999, L_1000, L_100000, L_1000000, L_24, L_33, L_34, L_36, L_38, L_69, L_70, L_72, L_214, L_215, L_288, L_174, L_175, L_206, LL_0, LL_1, LL_2, LL_3, LL_5, LL_7, LL_9, LL_10, LL_11, LL_12, LL_19, LL_20, LL_30, LL_39, LL_48, LL_57, LL_60, LL_97, LL_99, LL_122, LL_127, LL_999, bN]
theorem name_e (hT : Tp rd M n c) (hC : M.1 12 = lf CUTS 9) (hLt : M.1 13 = lf LETS 43) {s e : Nat} (hse : s ≤ e) (hen : e ≤ n) (fa fp tk nu lt : Int32) (rp : Nat → Int32) (td br bp va : Int32) : (∃ i, i < 8 ∧ wmB c s e i = true ∧ mX5_lineNamed (rdS rd fa fp tk (nI s) (nI e) nu lt) = some (nI i) ∧ mX8_nameHere (mdS M rp td br bp (nI e) (nI s) (nI 1) va) = some (nI (RO8 i))) ∨ (mX5_lineNamed (rdS rd fa fp tk (nI s) (nI e) nu lt) = some (-nI 4) ∧ mX8_nameHere (mdS M rp td br bp (nI e) (nI s) (nI 1) va) = some (-nI 4)) := by
  have hw : ∀ j, j < 8 → mX5_isWord (rdS rd fa fp tk (nI s) (nI e) nu lt) j = some (nI (bN (wmB c s e j))) := fun j hj => isWord_e hT hse hen fa fp tk nu lt hj
  have h2 : ∀ m, m < 8 → mX8_nameHere_l2 (mdS M rp td br bp (nI e) (nI s) (nI 1) va) (nI m) = if wmB c s e (PI8 m) then some (.inr (.inr (nI m))) else some (.inl (nI (m + 1))) := fun m hm => name2_e hT hC hLt hse hen rp td br bp va hm
  by_cases hex : ∃ i, i < 8 ∧ wmB c s e i = true
  · left
    obtain ⟨i, hi, hwi⟩ := hex
    have hot : ∀ j, j < 8 → j ≠ i → wmB c s e j = false := fun j hj hji => by
      cases hj2 : wmB c s e j
      · rfl
      · exact absurd (wm_uniq hj hi hj2 hwi) hji
    refine ⟨i, hi, hwi, ?_, ?_⟩
    · unfold mX5_lineNamed
      rcases (show i = 0 ∨ i = 1 ∨ i = 2 ∨ i = 3 ∨ i = 4 ∨ i = 5 ∨ i = 6 ∨ i = 7 by omega) with rfl | rfl | rfl | rfl | rfl | rfl | rfl | rfl
      all_goals
        simp (disch := omega) only [↓reduceIte, obs, esc_il, esc_ir, leT, leF, ltT, ltF, eqT, eqF, nleT, nleF, nltT, nltF, neqT, neqF, nI_add, pk_mul, ald_nI, ast_nI, irm_nI, idv_nI, zbT, zbF, in_T, in_F1, in_F2, nI_l, sI_1, sI_2, sA_1, sA_2, subK, add0, sub0, or0, lN_add, lN_mul, L_0, L_1, L_2, L_3, L_4, L_5, L_6, L_7, L_8, L_9, L_10, L_11, L_12, L_13, L_14, L_15, L_16, L_17, L_18, L_19, L_20, L_30, L_31, L_32, L_35, L_37, L_39, L_40, L_43, L_48, L_57, L_59, L_60, L_97, L_99, L_100, L_120, L_122, L_127, L_160, L_200, L_255, L_999, L_1000, L_100000, L_1000000, L_24, L_33, L_34, L_36, L_38, L_69, L_70, L_72, L_214, L_215, L_288, L_174, L_175, L_206, LL_0, LL_1, LL_2, LL_3, LL_5, LL_7, LL_9, LL_10, LL_11, LL_12, LL_19, LL_20, LL_30, LL_39, LL_48, LL_57, LL_60, LL_97, LL_99, LL_122, LL_127, LL_999, hw, hwi, hot, bN, Bool.false_eq_true]
    · unfold mX8_nameHere
      have hr := ro_e i hi
      rw [L_0, whO_for (fun m => nI m) (RO8 i) (.inr (nI (RO8 i))) rfl ?_ ?_ (by omega), obs, esc_ir]
      · intro m hm
        have hp := pi_e m (by omega)
        rw [h2 m (by omega), hot (PI8 m) hp.1 (fun z => by rw [z] at hp; omega)]
        rfl
      · rw [h2 _ hr.1, hr.2, hwi]
        rfl
  · right
    have hot : ∀ j, j < 8 → wmB c s e j = false := fun j hj => by
      cases hj2 : wmB c s e j
      · rfl
      · exact absurd ⟨j, hj, hj2⟩ hex
    refine ⟨?_, ?_⟩
    · unfold mX5_lineNamed
      simp (disch := omega) only [↓reduceIte, obs, esc_il, esc_ir, leT, leF, ltT, ltF, eqT, eqF, nleT, nleF, nltT, nltF, neqT, neqF, nI_add, pk_mul, ald_nI, ast_nI, irm_nI, idv_nI, zbT, zbF, in_T, in_F1, in_F2, nI_l, sI_1, sI_2, sA_1, sA_2, subK, add0, sub0, or0, lN_add, lN_mul, L_0, L_1, L_2, L_3, L_4, L_5, L_6, L_7, L_8, L_9, L_10, L_11, L_12, L_13, L_14, L_15, L_16, L_17, L_18, L_19, L_20, L_30, L_31, L_32, L_35, L_37, L_39, L_40, L_43, L_48, L_57, L_59, L_60, L_97, L_99, L_100, L_120, L_122, L_127, L_160, L_200, L_255, L_999, L_1000, L_100000, L_1000000, L_24, L_33, L_34, L_36, L_38, L_69, L_70, L_72, L_214, L_215, L_288, L_174, L_175, L_206, LL_0, LL_1, LL_2, LL_3, LL_5, LL_7, LL_9, LL_10, LL_11, LL_12, LL_19, LL_20, LL_30, LL_39, LL_48, LL_57, LL_60, LL_97, LL_99, LL_122, LL_127, LL_999, hw, hot, bN, Bool.false_eq_true]
    · unfold mX8_nameHere
      rw [L_0, whO_for (fun m => nI m) 8 (.inl (nI 8)) rfl ?_ ?_ (by decide), obs, esc_il]
      · rfl
      · intro m hm
        rw [h2 m hm, hot (PI8 m) (pi_e m hm).1]
        rfl
      · unfold mX8_nameHere_l2
        simp (disch := omega) only [↓reduceIte, obs, esc_il, esc_ir, leT, leF, ltT, ltF, eqT, eqF, nleT, nleF, nltT, nltF, neqT, neqF, nI_add, pk_mul, ald_nI, ast_nI, irm_nI, idv_nI, zbT, zbF, in_T, in_F1, in_F2, nI_l, sI_1, sI_2, sA_1, sA_2, subK, add0, sub0, or0, lN_add, lN_mul, L_0, L_1, L_2, L_3, L_4, L_5, L_6, L_7, L_8, L_9, L_10, L_11, L_12, L_13, L_14, L_15, L_16, L_17, L_18, L_19, L_20, L_30, L_31, L_32, L_35, L_37, L_39, L_40, L_43, L_48, L_57, L_59, L_60, L_97, L_99, L_100, L_120, L_122, L_127, L_160, L_200, L_255, L_999, L_1000, L_100000, L_1000000, L_24, L_33, L_34, L_36, L_38, L_69, L_70, L_72, L_214, L_215, L_288, L_174, L_175, L_206, LL_0, LL_1, LL_2, LL_3, LL_5, LL_7, LL_9, LL_10, LL_11, LL_12, LL_19, LL_20, LL_30, LL_39, LL_48, LL_57, LL_60, LL_97, LL_99, LL_122, LL_127, LL_999]
theorem noname_e (rp : Nat → Int32) (td br bp sp he va : Int32) {t : Nat} (ht : t < 10) (h1 : t ≠ 1) : mX8_nameHere (mdS M rp td br bp sp he (nI t) va) = some (-nI 4) := by
  unfold mX8_nameHere
  rw [L_0, whO_for (fun m => nI m) 0 (.inl (nI 0)) rfl (fun i h => absurd h (Nat.not_lt_zero _)) ?_ (by decide), obs, esc_il]
  · rfl
  · unfold mX8_nameHere_l2
    simp (disch := omega) only [↓reduceIte, obs, esc_il, esc_ir, leT, leF, ltT, ltF, eqT, eqF, nleT, nleF, nltT, nltF, neqT, neqF, nI_add, pk_mul, ald_nI, ast_nI, irm_nI, idv_nI, zbT, zbF, in_T, in_F1, in_F2, nI_l, sI_1, sI_2, sA_1, sA_2, subK, add0, sub0, or0, lN_add, lN_mul, L_0, L_1, L_2, L_3, L_4, L_5, L_6, L_7, L_8, L_9, L_10, L_11, L_12, L_13, L_14, L_15, L_16, L_17, L_18, L_19, L_20, L_30, L_31, L_32, L_35, L_37, L_39, L_40, L_43, L_48, L_57, L_59, L_60, L_97, L_99, L_100, L_120, L_122, L_127, L_160, L_200, L_255, L_999, L_1000, L_100000, L_1000000, L_24, L_33, L_34, L_36, L_38, L_69, L_70, L_72, L_214, L_215, L_288, L_174, L_175, L_206, LL_0, LL_1, LL_2, LL_3, LL_5, LL_7, LL_9, LL_10, LL_11, LL_12, LL_19, LL_20, LL_30, LL_39, LL_48, LL_57, LL_60, LL_97, LL_99, LL_122, LL_127, LL_999, md_0, md_1, md_t, md_12, md_13, md_2, md_4, md_6, md_7, md_8, md_9, md_10, md_11, md_s, md_s2, md_s6, md_s7, md_s8, md_s9, md_s10, md_s11]
end
