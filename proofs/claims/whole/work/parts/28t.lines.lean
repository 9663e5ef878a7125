/-! a line, in both -/
section
variable {rd M : GS} {n : Nat} {c : Nat → Nat}
theorem tabF_e : ∀ k, k < 4 → ∀ i, i < 8 → tabF k i = nI (TN k i) := by decide +kernel
theorem oneOf {i : Nat} (h : i < 8) (h2 : ¬ (i = 4 ∨ i = 5 ∨ i = 7)) : mX5_hasTwo (nI i) = some (nI 0) := by
  rw [two_e i h, if_neg h2]
theorem twoOf {i : Nat} (h : i < 8) (h2 : i = 4 ∨ i = 5 ∨ i = 7) : mX5_hasTwo (nI i) = some (nI 1) := by
  rw [two_e i h, if_pos h2]
theorem cls_bad1 (hT : Tp rd M n c) {p i : Nat} (hi : i < 8) (hp : p ≤ n) (h : nEr n c p (TN 0 i) (TN 1 i) ≠ 0) (t : GS) (fa fp tk st nu lt : Int32) : ∃ tk' st' sp' nu', TL7 (rdS rd fa fp tk st (nI p) nu lt) t (nI i) = some (nI 0, rdS rd (nI (nEr n c p (TN 0 i) (TN 1 i))) (nI (lxS n c p)) tk' st' sp' nu' lt, t) := by
  have b0 := TN_b 0 (by decide) i hi
  have b1 := TN_b 1 (by decide) i hi
  obtain ⟨tk', st', sp', nu', k⟩ := num7_bad hT hp (by omega) (by omega) h fa fp tk st nu lt
  refine ⟨tk', st', sp', nu', ?_⟩
  unfold TL7
  simp (disch := omega) only [↓reduceIte, obs, esc_il, esc_ir, leT, leF, ltT, ltF, eqT, eqF, nleT, nleF, nltT, nltF, neqT, neqF, nI_add, pk_mul, ald_nI, ast_nI, irm_nI, idv_nI, zbT, zbF, in_T, in_F1, in_F2, nI_l, sI_1, sI_2, sA_1, sA_2, subK, add0, sub0, or0, lN_add, lN_mul, L_0, L_1, L_2, L_3, L_4, L_5, L_6, L_7, L_8, L_9, L_10, L_11, L_12, L_13, L_14, L_15, L_16, L_17, L_18, L_19, L_20, L_30, L_31, L_32, L_35, L_37, L_39, L_40, L_43, L_48, L_57, L_59, L_60, L_97, L_99, L_100, L_120, L_122, L_127, L_160, L_200, L_255, L_999, L_1000, L_100000, L_1000000, L_24, L_33, L_34, L_36, L_38, L_69, L_70, L_72, L_214, L_215, L_288, L_174, L_175, L_206, LL_0, LL_1, LL_2, LL_3, LL_5, LL_7, LL_9, LL_10, LL_11, LL_12, LL_19, LL_20, LL_30, LL_39, LL_48, LL_57, LL_60, LL_97, LL_99, LL_122, LL_127, LL_999, tabF_e, k]
theorem one_badS (hT : Tp rd M n c) {p i : Nat} (hi : i < 8) (h2 : ¬ (i = 4 ∨ i = 5 ∨ i = 7)) (hp : p ≤ n) (h : nEr n c p (TN 0 i) (TN 1 i) = 0) (hs : sEr n c (lxE n c p) ≠ 0) (t : GS) (fa fp tk st nu lt : Int32) : ∃ tk' st' sp' nu', TL7 (rdS rd fa fp tk st (nI p) nu lt) t (nI i) = some (nI 0, rdS rd (nI (sEr n c (lxE n c p))) (nI (lxS n c (lxE n c p))) tk' st' sp' nu' lt, t) := by
  have b0 := TN_b 0 (by decide) i hi
  have b1 := TN_b 1 (by decide) i hi
  obtain ⟨-, q, -, -, -⟩ := lxE_f (c := c) hT.le hp
  have k := num7_ok hT hp (by omega) (by omega) h fa fp tk st nu lt
  obtain ⟨g', s1, s2, tk', st', sp', nu', s3⟩ := sign7_bad hT q hs fa fp (nI 2) (nI (lxS n c p)) (nI (lxV n c p)) lt
  refine ⟨tk', st', sp', nu', ?_⟩
  have s2' : ¬ g'.2 5 = nI 3 := s2
  rw [L_2, L_0] at s3
  unfold TL7
  simp (disch := omega) only [↓reduceIte, obs, esc_il, esc_ir, leT, leF, ltT, ltF, eqT, eqF, nleT, nleF, nltT, nltF, neqT, neqF, nI_add, pk_mul, ald_nI, ast_nI, irm_nI, idv_nI, zbT, zbF, in_T, in_F1, in_F2, nI_l, sI_1, sI_2, sA_1, sA_2, subK, add0, sub0, or0, lN_add, lN_mul, L_0, L_1, L_2, L_3, L_4, L_5, L_6, L_7, L_8, L_9, L_10, L_11, L_12, L_13, L_14, L_15, L_16, L_17, L_18, L_19, L_20, L_30, L_31, L_32, L_35, L_37, L_39, L_40, L_43, L_48, L_57, L_59, L_60, L_97, L_99, L_100, L_120, L_122, L_127, L_160, L_200, L_255, L_999, L_1000, L_100000, L_1000000, L_24, L_33, L_34, L_36, L_38, L_69, L_70, L_72, L_214, L_215, L_288, L_174, L_175, L_206, LL_0, LL_1, LL_2, LL_3, LL_5, LL_7, LL_9, LL_10, LL_11, LL_12, LL_19, LL_20, LL_30, LL_39, LL_48, LL_57, LL_60, LL_97, LL_99, LL_122, LL_127, LL_999, tabF_e, k, oneOf hi h2, s1, s2', s3, rtZ0]
theorem one_ok (hT : Tp rd M n c) {p i : Nat} (hi : i < 8) (h2 : ¬ (i = 4 ∨ i = 5 ∨ i = 7)) (hp : p ≤ n) (h : nEr n c p (TN 0 i) (TN 1 i) = 0) (hs : sEr n c (lxE n c p) = 0) (t : GS) (fa fp tk st nu lt : Int32) : ∃ nu', TL7 (rdS rd fa fp tk st (nI p) nu lt) t (nI i) = Option.bind (mX5_tell (rdS rd fa fp (nI 3) (nI (lxS n c (lxE n c p))) (nI (lxE n c (lxE n c p))) nu' lt) t (nI i) (nI (lxV n c p)) (nI (lxV n c p))) fun v25 => some (nI 1, v25.1, v25.2) := by
  have b0 := TN_b 0 (by decide) i hi
  have b1 := TN_b 1 (by decide) i hi
  obtain ⟨-, q, -, -, -⟩ := lxE_f (c := c) hT.le hp
  have k := num7_ok hT hp (by omega) (by omega) h fa fp tk st nu lt
  obtain ⟨nu', s1, -⟩ := token7 hT q fa fp (nI 2) (nI (lxS n c p)) (nI (lxV n c p)) lt
  rw [sEr_0 hs] at s1
  refine ⟨nu', ?_⟩
  unfold TL7
  simp (disch := omega) only [↓reduceIte, obs, esc_il, esc_ir, leT, leF, ltT, ltF, eqT, eqF, nleT, nleF, nltT, nltF, neqT, neqF, nI_add, pk_mul, ald_nI, ast_nI, irm_nI, idv_nI, zbT, zbF, in_T, in_F1, in_F2, nI_l, sI_1, sI_2, sA_1, sA_2, subK, add0, sub0, or0, lN_add, lN_mul, L_0, L_1, L_2, L_3, L_4, L_5, L_6, L_7, L_8, L_9, L_10, L_11, L_12, L_13, L_14, L_15, L_16, L_17, L_18, L_19, L_20, L_30, L_31, L_32, L_35, L_37, L_39, L_40, L_43, L_48, L_57, L_59, L_60, L_97, L_99, L_100, L_120, L_122, L_127, L_160, L_200, L_255, L_999, L_1000, L_100000, L_1000000, L_24, L_33, L_34, L_36, L_38, L_69, L_70, L_72, L_214, L_215, L_288, L_174, L_175, L_206, LL_0, LL_1, LL_2, LL_3, LL_5, LL_7, LL_9, LL_10, LL_11, LL_12, LL_19, LL_20, LL_30, LL_39, LL_48, LL_57, LL_60, LL_97, LL_99, LL_122, LL_127, LL_999, tabF_e, k, oneOf hi h2, s1, rd_5, rd_8]
theorem two_bad2 (hT : Tp rd M n c) {p i : Nat} (hi : i < 8) (h2 : i = 4 ∨ i = 5 ∨ i = 7) (hp : p ≤ n) (h : nEr n c p (TN 0 i) (TN 1 i) = 0) (hs : nEr n c (lxE n c p) (TN 2 i) (TN 3 i) ≠ 0) (t : GS) (fa fp tk st nu lt : Int32) : ∃ tk' st' sp' nu', TL7 (rdS rd fa fp tk st (nI p) nu lt) t (nI i) = some (nI 0, rdS rd (nI (nEr n c (lxE n c p) (TN 2 i) (TN 3 i))) (nI (lxS n c (lxE n c p))) tk' st' sp' nu' lt, t) := by
  have b0 := TN_b 0 (by decide) i hi
  have b1 := TN_b 1 (by decide) i hi
  have b2 := TN_b 2 (by decide) i hi
  have b3 := TN_b 3 (by decide) i hi
  obtain ⟨-, q, -, -, -⟩ := lxE_f (c := c) hT.le hp
  have k := num7_ok hT hp (by omega) (by omega) h fa fp tk st nu lt
  obtain ⟨tk', st', sp', nu', k2⟩ := num7_bad hT q (by omega) (by omega) hs fa fp (nI 2) (nI (lxS n c p)) (nI (lxV n c p)) lt
  refine ⟨tk', st', sp', nu', ?_⟩
  unfold TL7
  simp (disch := omega) only [↓reduceIte, obs, esc_il, esc_ir, leT, leF, ltT, ltF, eqT, eqF, nleT, nleF, nltT, nltF, neqT, neqF, nI_add, pk_mul, ald_nI, ast_nI, irm_nI, idv_nI, zbT, zbF, in_T, in_F1, in_F2, nI_l, sI_1, sI_2, sA_1, sA_2, subK, add0, sub0, or0, lN_add, lN_mul, L_0, L_1, L_2, L_3, L_4, L_5, L_6, L_7, L_8, L_9, L_10, L_11, L_12, L_13, L_14, L_15, L_16, L_17, L_18, L_19, L_20, L_30, L_31, L_32, L_35, L_37, L_39, L_40, L_43, L_48, L_57, L_59, L_60, L_97, L_99, L_100, L_120, L_122, L_127, L_160, L_200, L_255, L_999, L_1000, L_100000, L_1000000, L_24, L_33, L_34, L_36, L_38, L_69, L_70, L_72, L_214, L_215, L_288, L_174, L_175, L_206, LL_0, LL_1, LL_2, LL_3, LL_5, LL_7, LL_9, LL_10, LL_11, LL_12, LL_19, LL_20, LL_30, LL_39, LL_48, LL_57, LL_60, LL_97, LL_99, LL_122, LL_127, LL_999, tabF_e, k, twoOf hi h2, k2]
theorem two_badS (hT : Tp rd M n c) {p i : Nat} (hi : i < 8) (h2 : i = 4 ∨ i = 5 ∨ i = 7) (hp : p ≤ n) (h : nEr n c p (TN 0 i) (TN 1 i) = 0) (h3 : nEr n c (lxE n c p) (TN 2 i) (TN 3 i) = 0) (hs : sEr n c (lxE n c (lxE n c p)) ≠ 0) (t : GS) (fa fp tk st nu lt : Int32) : ∃ tk' st' sp' nu', TL7 (rdS rd fa fp tk st (nI p) nu lt) t (nI i) = some (nI 0, rdS rd (nI (sEr n c (lxE n c (lxE n c p)))) (nI (lxS n c (lxE n c (lxE n c p)))) tk' st' sp' nu' lt, t) := by
  have b0 := TN_b 0 (by decide) i hi
  have b1 := TN_b 1 (by decide) i hi
  have b2 := TN_b 2 (by decide) i hi
  have b3 := TN_b 3 (by decide) i hi
  obtain ⟨-, q, -, -, -⟩ := lxE_f (c := c) hT.le hp
  obtain ⟨-, r, -, -, -⟩ := lxE_f (c := c) hT.le q
  have k := num7_ok hT hp (by omega) (by omega) h fa fp tk st nu lt
  have k2 := num7_ok hT q (by omega) (by omega) h3 fa fp (nI 2) (nI (lxS n c p)) (nI (lxV n c p)) lt
  obtain ⟨g', s1, s2, tk', st', sp', nu', s3⟩ := sign7_bad hT r hs fa fp (nI 2) (nI (lxS n c (lxE n c p))) (nI (lxV n c (lxE n c p))) lt
  refine ⟨tk', st', sp', nu', ?_⟩
  have s2' : ¬ g'.2 5 = nI 3 := s2
  rw [L_2, L_0] at s3
  unfold TL7
  simp (disch := omega) only [↓reduceIte, obs, esc_il, esc_ir, leT, leF, ltT, ltF, eqT, eqF, nleT, nleF, nltT, nltF, neqT, neqF, nI_add, pk_mul, ald_nI, ast_nI, irm_nI, idv_nI, zbT, zbF, in_T, in_F1, in_F2, nI_l, sI_1, sI_2, sA_1, sA_2, subK, add0, sub0, or0, lN_add, lN_mul, L_0, L_1, L_2, L_3, L_4, L_5, L_6, L_7, L_8, L_9, L_10, L_11, L_12, L_13, L_14, L_15, L_16, L_17, L_18, L_19, L_20, L_30, L_31, L_32, L_35, L_37, L_39, L_40, L_43, L_48, L_57, L_59, L_60, L_97, L_99, L_100, L_120, L_122, L_127, L_160, L_200, L_255, L_999, L_1000, L_100000, L_1000000, L_24, L_33, L_34, L_36, L_38, L_69, L_70, L_72, L_214, L_215, L_288, L_174, L_175, L_206, LL_0, LL_1, LL_2, LL_3, LL_5, LL_7, LL_9, LL_10, LL_11, LL_12, LL_19, LL_20, LL_30, LL_39, LL_48, LL_57, LL_60, LL_97, LL_99, LL_122, LL_127, LL_999, tabF_e, k, k2, twoOf hi h2, s1, s2', s3, rtZ0]
theorem two_ok (hT : Tp rd M n c) {p i : Nat} (hi : i < 8) (h2 : i = 4 ∨ i = 5 ∨ i = 7) (hp : p ≤ n) (h : nEr n c p (TN 0 i) (TN 1 i) = 0) (h3 : nEr n c (lxE n c p) (TN 2 i) (TN 3 i) = 0) (hs : sEr n c (lxE n c (lxE n c p)) = 0) (t : GS) (fa fp tk st nu lt : Int32) : ∃ nu', TL7 (rdS rd fa fp tk st (nI p) nu lt) t (nI i) = Option.bind (mX5_tell (rdS rd fa fp (nI 3) (nI (lxS n c (lxE n c (lxE n c p)))) (nI (lxE n c (lxE n c (lxE n c p)))) nu' lt) t (nI i) (nI (lxV n c p)) (nI (lxV n c (lxE n c p)))) fun v25 => some (nI 1, v25.1, v25.2) := by
  have b0 := TN_b 0 (by decide) i hi
  have b1 := TN_b 1 (by decide) i hi
  have b2 := TN_b 2 (by decide) i hi
  have b3 := TN_b 3 (by decide) i hi
  obtain ⟨-, q, -, -, -⟩ := lxE_f (c := c) hT.le hp
  obtain ⟨-, r, -, -, -⟩ := lxE_f (c := c) hT.le q
  have k := num7_ok hT hp (by omega) (by omega) h fa fp tk st nu lt
  have k2 := num7_ok hT q (by omega) (by omega) h3 fa fp (nI 2) (nI (lxS n c p)) (nI (lxV n c p)) lt
  obtain ⟨nu', s1, -⟩ := token7 hT r fa fp (nI 2) (nI (lxS n c (lxE n c p))) (nI (lxV n c (lxE n c p))) lt
  rw [sEr_0 hs] at s1
  refine ⟨nu', ?_⟩
  unfold TL7
  simp (disch := omega) only [↓reduceIte, obs, esc_il, esc_ir, leT, leF, ltT, ltF, eqT, eqF, nleT, nleF, nltT, nltF, neqT, neqF, nI_add, pk_mul, ald_nI, ast_nI, irm_nI, idv_nI, zbT, zbF, in_T, in_F1, in_F2, nI_l, sI_1, sI_2, sA_1, sA_2, subK, add0, sub0, or0, lN_add, lN_mul, L_0, L_1, L_2, L_3, L_4, L_5, L_6, L_7, L_8, L_9, L_10, L_11, L_12, L_13, L_14, L_15, L_16, L_17, L_18, L_19, L_20, L_30, L_31, L_32, L_35, L_37, L_39, L_40, L_43, L_48, L_57, L_59, L_60, L_97, L_99, L_100, L_120, L_122, L_127, L_160, L_200, L_255, L_999, L_1000, L_100000, L_1000000, L_24, L_33, L_34, L_36, L_38, L_69, L_70, L_72, L_214, L_215, L_288, L_174, L_175, L_206, LL_0, LL_1, LL_2, LL_3, LL_5, LL_7, LL_9, LL_10, LL_11, LL_12, LL_19, LL_20, LL_30, LL_39, LL_48, LL_57, LL_60, LL_97, LL_99, LL_122, LL_127, LL_999, tabF_e, k, k2, twoOf hi h2, s1, rd_5, rd_8]
/-- the reference's part of a line: the page after it, or the fault -/
def RM (M : GS) (n : Nat) (c : Nat → Nat) (G : GS) (m : Nat) (td : Int32) (rp' : Nat → Int32) (p' : Nat) : Prop := ∃ G', mX8_readMore G (nI m) = some G' ∧ ST M n c rp' td p' G'
def RB (M : GS) (G : GS) (m : Nat) (td : Int32) (e a : Nat) : Prop := ∃ G' rp', mX8_readMore G (nI m) = some G' ∧ BK M rp' td e a G'
theorem rmB_ok (hT : Tp rd M n c) {p i : Nat} (hi4 : i < 4) (hp : p ≤ n) {rp : Nat → Int32} {td : Int32} {G : GS} (hS : ST M n c rp td p G) {b : AH} (hv : PV rp 0 b) (hb : HI b) (hl : b.2 5 < 6) (h : nEr n c p 0 9 = 0) : RM M n c G i td (upd (upd (upd rp (b.2 5) (nI i)) (6 + b.2 5) (nI (lxV n c p))) 12 (nI (b.2 5 + 1))) (lxE n c p) := by
  obtain ⟨G1, k1, k2⟩ := num8_ok hT hp (by decide) (by decide) h (ST_sA hS (upd rp (b.2 5) (nI i)))
  refine ⟨sA G1 1 (upd (upd (upd rp (b.2 5) (nI i)) (6 + b.2 5) (nI (lxV n c p))) 12 (nI (b.2 5 + 1))), ?_, ST_sA k2 _⟩
  unfold mX8_readMore
  simp (disch := omega) only [↓reduceIte, obs, esc_il, esc_ir, leT, leF, ltT, ltF, eqT, eqF, nleT, nleF, nltT, nltF, neqT, neqF, nI_add, pk_mul, ald_nI, ast_nI, irm_nI, idv_nI, zbT, zbF, in_T, in_F1, in_F2, nI_l, sI_1, sI_2, sA_1, sA_2, subK, add0, sub0, or0, lN_add, lN_mul, L_0, L_1, L_2, L_3, L_4, L_5, L_6, L_7, L_8, L_9, L_10, L_11, L_12, L_13, L_14, L_15, L_16, L_17, L_18, L_19, L_20, L_30, L_31, L_32, L_35, L_37, L_39, L_40, L_43, L_48, L_57, L_59, L_60, L_97, L_99, L_100, L_120, L_122, L_127, L_160, L_200, L_255, L_999, L_1000, L_100000, L_1000000, L_24, L_33, L_34, L_36, L_38, L_69, L_70, L_72, L_214, L_215, L_288, L_174, L_175, L_206, LL_0, LL_1, LL_2, LL_3, LL_5, LL_7, LL_9, LL_10, LL_11, LL_12, LL_19, LL_20, LL_30, LL_39, LL_48, LL_57, LL_60, LL_97, LL_99, LL_122, LL_127, LL_999, hS.pg, P0.b hv, k1, k2.pg, upd_e, sA_sA]
theorem rmB_bad (hT : Tp rd M n c) {p i : Nat} (hi4 : i < 4) (hp : p ≤ n) {rp : Nat → Int32} {td : Int32} {G : GS} (hS : ST M n c rp td p G) {b : AH} (hv : PV rp 0 b) (hb : HI b) (hl : b.2 5 < 6) (h : nEr n c p 0 9 ≠ 0) : RB M G i td (nEr n c p 0 9) (lxS n c p) := by
  obtain ⟨G1, k1, k2⟩ := num8_bad hT hp (by decide) (by decide) h (ST_sA hS (upd rp (b.2 5) (nI i)))
  refine ⟨sA G1 1 (upd (upd (upd rp (b.2 5) (nI i)) (6 + b.2 5) (nI 0)) 12 (nI (b.2 5 + 1))), _, ?_, BK_sA k2 _⟩
  unfold mX8_readMore
  simp (disch := omega) only [↓reduceIte, obs, esc_il, esc_ir, leT, leF, ltT, ltF, eqT, eqF, nleT, nleF, nltT, nltF, neqT, neqF, nI_add, pk_mul, ald_nI, ast_nI, irm_nI, idv_nI, zbT, zbF, in_T, in_F1, in_F2, nI_l, sI_1, sI_2, sA_1, sA_2, subK, add0, sub0, or0, lN_add, lN_mul, L_0, L_1, L_2, L_3, L_4, L_5, L_6, L_7, L_8, L_9, L_10, L_11, L_12, L_13, L_14, L_15, L_16, L_17, L_18, L_19, L_20, L_30, L_31, L_32, L_35, L_37, L_39, L_40, L_43, L_48, L_57, L_59, L_60, L_97, L_99, L_100, L_120, L_122, L_127, L_160, L_200, L_255, L_999, L_1000, L_100000, L_1000000, L_24, L_33, L_34, L_36, L_38, L_69, L_70, L_72, L_214, L_215, L_288, L_174, L_175, L_206, LL_0, LL_1, LL_2, LL_3, LL_5, LL_7, LL_9, LL_10, LL_11, LL_12, LL_19, LL_20, LL_30, LL_39, LL_48, LL_57, LL_60, LL_97, LL_99, LL_122, LL_127, LL_999, hS.pg, P0.b hv, k1, k2.pg, upd_e, sA_sA]
theorem rmU_ok (hT : Tp rd M n c) {p : Nat} (hp : p ≤ n) {rp : Nat → Int32} {td : Int32} {G : GS} (hS : ST M n c rp td p G) (h : nEr n c p 0 11 = 0) : RM M n c G 7 td (upd rp 17 (nI (lxV n c p + 1))) (lxE n c p) := by
  obtain ⟨G1, k1, k2⟩ := num8_ok hT hp (by decide) (by decide) h hS
  refine ⟨sA G1 1 (upd rp 17 (nI (lxV n c p + 1))), ?_, ST_sA k2 _⟩
  unfold mX8_readMore
  simp (disch := omega) only [↓reduceIte, obs, esc_il, esc_ir, leT, leF, ltT, ltF, eqT, eqF, nleT, nleF, nltT, nltF, neqT, neqF, nI_add, pk_mul, ald_nI, ast_nI, irm_nI, idv_nI, zbT, zbF, in_T, in_F1, in_F2, nI_l, sI_1, sI_2, sA_1, sA_2, subK, add0, sub0, or0, lN_add, lN_mul, L_0, L_1, L_2, L_3, L_4, L_5, L_6, L_7, L_8, L_9, L_10, L_11, L_12, L_13, L_14, L_15, L_16, L_17, L_18, L_19, L_20, L_30, L_31, L_32, L_35, L_37, L_39, L_40, L_43, L_48, L_57, L_59, L_60, L_97, L_99, L_100, L_120, L_122, L_127, L_160, L_200, L_255, L_999, L_1000, L_100000, L_1000000, L_24, L_33, L_34, L_36, L_38, L_69, L_70, L_72, L_214, L_215, L_288, L_174, L_175, L_206, LL_0, LL_1, LL_2, LL_3, LL_5, LL_7, LL_9, LL_10, LL_11, LL_12, LL_19, LL_20, LL_30, LL_39, LL_48, LL_57, LL_60, LL_97, LL_99, LL_122, LL_127, LL_999, k1, k2.pg]
theorem rmU_bad (hT : Tp rd M n c) {p : Nat} (hp : p ≤ n) {rp : Nat → Int32} {td : Int32} {G : GS} (hS : ST M n c rp td p G) (h : nEr n c p 0 11 ≠ 0) : RB M G 7 td (nEr n c p 0 11) (lxS n c p) := by
  obtain ⟨G1, k1, k2⟩ := num8_bad hT hp (by decide) (by decide) h hS
  refine ⟨sA G1 1 (upd rp 17 (nI (0 + 1))), _, ?_, BK_sA k2 _⟩
  unfold mX8_readMore
  simp (disch := omega) only [↓reduceIte, obs, esc_il, esc_ir, leT, leF, ltT, ltF, eqT, eqF, nleT, nleF, nltT, nltF, neqT, neqF, nI_add, pk_mul, ald_nI, ast_nI, irm_nI, idv_nI, zbT, zbF, in_T, in_F1, in_F2, nI_l, sI_1, sI_2, sA_1, sA_2, subK, add0, sub0, or0, lN_add, lN_mul, L_0, L_1, L_2, L_3, L_4, L_5, L_6, L_7, L_8, L_9, L_10, L_11, L_12, L_13, L_14, L_15, L_16, L_17, L_18, L_19, L_20, L_30, L_31, L_32, L_35, L_37, L_39, L_40, L_43, L_48, L_57, L_59, L_60, L_97, L_99, L_100, L_120, L_122, L_127, L_160, L_200, L_255, L_999, L_1000, L_100000, L_1000000, L_24, L_33, L_34, L_36, L_38, L_69, L_70, L_72, L_214, L_215, L_288, L_174, L_175, L_206, LL_0, LL_1, LL_2, LL_3, LL_5, LL_7, LL_9, LL_10, LL_11, LL_12, LL_19, LL_20, LL_30, LL_39, LL_48, LL_57, LL_60, LL_97, LL_99, LL_122, LL_127, LL_999, k1, k2.pg]
theorem rm5_ok (hT : Tp rd M n c) {p : Nat} (hp : p ≤ n) {rp : Nat → Int32} {td : Int32} {G : GS} (hS : ST M n c rp td p G) (h : nEr n c p 1 12 = 0) (h2 : nEr n c (lxE n c p) 0 5 = 0) : RM M n c G 5 td (upd (upd rp 13 (nI (lxV n c p) - nI 12)) 14 (nI (lxV n c (lxE n c p)))) (lxE n c (lxE n c p)) := by
  obtain ⟨-, q, -, -, -⟩ := lxE_f (c := c) hT.le hp
  obtain ⟨G1, k1, k2⟩ := num8_ok hT hp (by decide) (by decide) h hS
  obtain ⟨G2, k3, k4⟩ := num8_ok hT q (by decide) (by decide) h2 (ST_sA k2 (upd rp 13 (nI (lxV n c p) - nI 12)))
  refine ⟨sA G2 1 (upd (upd rp 13 (nI (lxV n c p) - nI 12)) 14 (nI (lxV n c (lxE n c p)))), ?_, ST_sA k4 _⟩
  unfold mX8_readMore
  simp (disch := omega) only [↓reduceIte, obs, esc_il, esc_ir, leT, leF, ltT, ltF, eqT, eqF, nleT, nleF, nltT, nltF, neqT, neqF, nI_add, pk_mul, ald_nI, ast_nI, irm_nI, idv_nI, zbT, zbF, in_T, in_F1, in_F2, nI_l, sI_1, sI_2, sA_1, sA_2, add0, sub0, or0, lN_add, lN_mul, L_0, L_1, L_2, L_3, L_4, L_5, L_6, L_7, L_8, L_9, L_10, L_11, L_12, L_13, L_14, L_15, L_16, L_17, L_18, L_19, L_20, L_30, L_31, L_32, L_35, L_37, L_39, L_40, L_43, L_48, L_57, L_59, L_60, L_97, L_99, L_100, L_120, L_122, L_127, L_160, L_200, L_255, L_999, L_1000, L_100000, L_1000000, L_24, L_33, L_34, L_36, L_38, L_69, L_70, L_72, L_214, L_215, L_288, L_174, L_175, L_206, LL_0, LL_1, LL_2, LL_3, LL_5, LL_7, LL_9, LL_10, LL_11, LL_12, LL_19, LL_20, LL_30, LL_39, LL_48, LL_57, LL_60, LL_97, LL_99, LL_122, LL_127, LL_999, k1, k2.pg, k3, k4.pg]
theorem rm5_bad1 (hT : Tp rd M n c) {p : Nat} (hp : p ≤ n) {rp : Nat → Int32} {td : Int32} {G : GS} (hS : ST M n c rp td p G) (h : nEr n c p 1 12 ≠ 0) : RB M G 5 td (nEr n c p 1 12) (lxS n c p) := by
  have hle := nEr_le n c p 1 12
  obtain ⟨G1, k1, k2⟩ := num8_bad hT hp (by decide) (by decide) h hS
  have k3b := BK_sA k2 (upd rp 13 (nI 1 - nI 12))
  have k3 := num8_brk (l := 0) (m := 5) (by decide) (by decide) k3b (by omega) (by omega)
  refine ⟨_, _, ?_, BK_sA k3b (upd (upd rp 13 (nI 1 - nI 12)) 14 (nI 0))⟩
  unfold mX8_readMore
  simp (disch := omega) only [↓reduceIte, obs, esc_il, esc_ir, leT, leF, ltT, ltF, eqT, eqF, nleT, nleF, nltT, nltF, neqT, neqF, nI_add, pk_mul, ald_nI, ast_nI, irm_nI, idv_nI, zbT, zbF, in_T, in_F1, in_F2, nI_l, sI_1, sI_2, sA_1, sA_2, add0, sub0, or0, lN_add, lN_mul, L_0, L_1, L_2, L_3, L_4, L_5, L_6, L_7, L_8, L_9, L_10, L_11, L_12, L_13, L_14, L_15, L_16, L_17, L_18, L_19, L_20, L_30, L_31, L_32, L_35, L_37, L_39, L_40, L_43, L_48, L_57, L_59, L_60, L_97, L_99, L_100, L_120, L_122, L_127, L_160, L_200, L_255, L_999, L_1000, L_100000, L_1000000, L_24, L_33, L_34, L_36, L_38, L_69, L_70, L_72, L_214, L_215, L_288, L_174, L_175, L_206, LL_0, LL_1, LL_2, LL_3, LL_5, LL_7, LL_9, LL_10, LL_11, LL_12, LL_19, LL_20, LL_30, LL_39, LL_48, LL_57, LL_60, LL_97, LL_99, LL_122, LL_127, LL_999, k1, k2.pg, k3, k3b.pg]
theorem rm5_bad2 (hT : Tp rd M n c) {p : Nat} (hp : p ≤ n) {rp : Nat → Int32} {td : Int32} {G : GS} (hS : ST M n c rp td p G) (h : nEr n c p 1 12 = 0) (h2 : nEr n c (lxE n c p) 0 5 ≠ 0) : RB M G 5 td (nEr n c (lxE n c p) 0 5) (lxS n c (lxE n c p)) := by
  obtain ⟨-, q, -, -, -⟩ := lxE_f (c := c) hT.le hp
  obtain ⟨G1, k1, k2⟩ := num8_ok hT hp (by decide) (by decide) h hS
  obtain ⟨G2, k3, k4⟩ := num8_bad hT q (by decide) (by decide) h2 (ST_sA k2 (upd rp 13 (nI (lxV n c p) - nI 12)))
  refine ⟨sA G2 1 (upd (upd rp 13 (nI (lxV n c p) - nI 12)) 14 (nI 0)), _, ?_, BK_sA k4 _⟩
  unfold mX8_readMore
  simp (disch := omega) only [↓reduceIte, obs, esc_il, esc_ir, leT, leF, ltT, ltF, eqT, eqF, nleT, nleF, nltT, nltF, neqT, neqF, nI_add, pk_mul, ald_nI, ast_nI, irm_nI, idv_nI, zbT, zbF, in_T, in_F1, in_F2, nI_l, sI_1, sI_2, sA_1, sA_2, add0, sub0, or0, lN_add, lN_mul, L_0, L_1, L_2, L_3, L_4, L_5, L_6, L_7, L_8, L_9, L_10, L_11, L_12, L_13, L_14, L_15, L_16, L_17, L_18, L_19, L_20, L_30, L_31, L_32, L_35, L_37, L_39, L_40, L_43, L_48, L_57, L_59, L_60, L_97, L_99, L_100, L_120, L_122, L_127, L_160, L_200, L_255, L_999, L_1000, L_100000, L_1000000, L_24, L_33, L_34, L_36, L_38, L_69, L_70, L_72, L_214, L_215, L_288, L_174, L_175, L_206, LL_0, LL_1, LL_2, LL_3, LL_5, LL_7, LL_9, LL_10, LL_11, LL_12, LL_19, LL_20, LL_30, LL_39, LL_48, LL_57, LL_60, LL_97, LL_99, LL_122, LL_127, LL_999, k1, k2.pg, k3, k4.pg]
theorem rm6_ok (hT : Tp rd M n c) {p : Nat} (hp : p ≤ n) {rp : Nat → Int32} {td : Int32} {G : GS} (hS : ST M n c rp td p G) (h : nEr n c p 0 11 = 0) (h2 : nEr n c (lxE n c p) 0 11 = 0) : RM M n c G 6 td (upd (upd rp 15 (nI (lxV n c p))) 16 (nI (lxV n c (lxE n c p)) - nI 2)) (lxE n c (lxE n c p)) := by
  obtain ⟨-, q, -, -, -⟩ := lxE_f (c := c) hT.le hp
  obtain ⟨G1, k1, k2⟩ := num8_ok hT hp (by decide) (by decide) h hS
  obtain ⟨G2, k3, k4⟩ := num8_ok hT q (by decide) (by decide) h2 (ST_sA k2 (upd rp 15 (nI (lxV n c p))))
  refine ⟨sA G2 1 (upd (upd rp 15 (nI (lxV n c p))) 16 (nI (lxV n c (lxE n c p)) - nI 2)), ?_, ST_sA k4 _⟩
  unfold mX8_readMore
  simp (disch := omega) only [↓reduceIte, obs, esc_il, esc_ir, leT, leF, ltT, ltF, eqT, eqF, nleT, nleF, nltT, nltF, neqT, neqF, nI_add, pk_mul, ald_nI, ast_nI, irm_nI, idv_nI, zbT, zbF, in_T, in_F1, in_F2, nI_l, sI_1, sI_2, sA_1, sA_2, add0, sub0, or0, lN_add, lN_mul, L_0, L_1, L_2, L_3, L_4, L_5, L_6, L_7, L_8, L_9, L_10, L_11, L_12, L_13, L_14, L_15, L_16, L_17, L_18, L_19, L_20, L_30, L_31, L_32, L_35, L_37, L_39, L_40, L_43, L_48, L_57, L_59, L_60, L_97, L_99, L_100, L_120, L_122, L_127, L_160, L_200, L_255, L_999, L_1000, L_100000, L_1000000, L_24, L_33, L_34, L_36, L_38, L_69, L_70, L_72, L_214, L_215, L_288, L_174, L_175, L_206, LL_0, LL_1, LL_2, LL_3, LL_5, LL_7, LL_9, LL_10, LL_11, LL_12, LL_19, LL_20, LL_30, LL_39, LL_48, LL_57, LL_60, LL_97, LL_99, LL_122, LL_127, LL_999, k1, k2.pg, k3, k4.pg]
theorem rm6_bad1 (hT : Tp rd M n c) {p : Nat} (hp : p ≤ n) {rp : Nat → Int32} {td : Int32} {G : GS} (hS : ST M n c rp td p G) (h : nEr n c p 0 11 ≠ 0) : RB M G 6 td (nEr n c p 0 11) (lxS n c p) := by
  have hle := nEr_le n c p 0 11
  obtain ⟨G1, k1, k2⟩ := num8_bad hT hp (by decide) (by decide) h hS
  have k3b := BK_sA k2 (upd rp 15 (nI 0))
  have k3 := num8_brk (l := 0) (m := 11) (by decide) (by decide) k3b (by omega) (by omega)
  refine ⟨_, _, ?_, BK_sA k3b (upd (upd rp 15 (nI 0)) 16 (nI 0 - nI 2))⟩
  unfold mX8_readMore
  simp (disch := omega) only [↓reduceIte, obs, esc_il, esc_ir, leT, leF, ltT, ltF, eqT, eqF, nleT, nleF, nltT, nltF, neqT, neqF, nI_add, pk_mul, ald_nI, ast_nI, irm_nI, idv_nI, zbT, zbF, in_T, in_F1, in_F2, nI_l, sI_1, sI_2, sA_1, sA_2, add0, sub0, or0, lN_add, lN_mul, L_0, L_1, L_2, L_3, L_4, L_5, L_6, L_7, L_8, L_9, L_10, L_11, L_12, L_13, L_14, L_15, L_16, L_17, L_18, L_19, L_20, L_30, L_31, L_32, L_35, L_37, L_39, L_40, L_43, L_48, L_57, L_59, L_60, L_97, L_99, L_100, L_120, L_122, L_127, L_160, L_200, L_255, L_999, L_1000, L_100000, L_1000000, L_24, L_33, L_34, L_36, L_38, L_69, L_70, L_72, L_214, L_215, L_288, L_174, L_175, L_206, LL_0, LL_1, LL_2, LL_3, LL_5, LL_7, LL_9, LL_10, LL_11, LL_12, LL_19, LL_20, LL_30, LL_39, LL_48, LL_57, LL_60, LL_97, LL_99, LL_122, LL_127, LL_999, k1, k2.pg, k3, k3b.pg]
theorem rm6_bad2 (hT : Tp rd M n c) {p : Nat} (hp : p ≤ n) {rp : Nat → Int32} {td : Int32} {G : GS} (hS : ST M n c rp td p G) (h : nEr n c p 0 11 = 0) (h2 : nEr n c (lxE n c p) 0 11 ≠ 0) : RB M G 6 td (nEr n c (lxE n c p) 0 11) (lxS n c (lxE n c p)) := by
  obtain ⟨-, q, -, -, -⟩ := lxE_f (c := c) hT.le hp
  obtain ⟨G1, k1, k2⟩ := num8_ok hT hp (by decide) (by decide) h hS
  obtain ⟨G2, k3, k4⟩ := num8_bad hT q (by decide) (by decide) h2 (ST_sA k2 (upd rp 15 (nI (lxV n c p))))
  refine ⟨sA G2 1 (upd (upd rp 15 (nI (lxV n c p))) 16 (nI 0 - nI 2)), _, ?_, BK_sA k4 _⟩
  unfold mX8_readMore
  simp (disch := omega) only [↓reduceIte, obs, esc_il, esc_ir, leT, leF, ltT, ltF, eqT, eqF, nleT, nleF, nltT, nltF, neqT, neqF, nI_add, pk_mul, ald_nI, ast_nI, irm_nI, idv_nI, zbT, zbF, in_T, in_F1, in_F2, nI_l, sI_1, sI_2, sA_1, sA_2, add0, sub0, or0, lN_add, lN_mul, L_0, L_1, L_2, L_3, L_4, L_5, L_6, L_7, L_8, L_9, L_10, L_11, L_12, L_13, L_14, L_15, L_16, L_17, L_18, L_19, L_20, L_30, L_31, L_32, L_35, L_37, L_39, L_40, L_43, L_48, L_57, L_59, L_60, L_97, L_99, L_100, L_120, L_122, L_127, L_160, L_200, L_255, L_999, L_1000, L_100000, L_1000000, L_24, L_33, L_34, L_36, L_38, L_69, L_70, L_72, L_214, L_215, L_288, L_174, L_175, L_206, LL_0, LL_1, LL_2, LL_3, LL_5, LL_7, LL_9, LL_10, LL_11, LL_12, LL_19, LL_20, LL_30, LL_39, LL_48, LL_57, LL_60, LL_97, LL_99, LL_122, LL_127, LL_999, k1, k2.pg, k3, k4.pg]
theorem rm4_ok (hT : Tp rd M n c) {p : Nat} (hp : p ≤ n) {rp : Nat → Int32} {td : Int32} {G : GS} (hS : ST M n c rp td p G) {b : AH} (hv : PV rp 0 b) (hb : HI b) (hl : b.2 12 < 4) (h : nEr n c p 1 9 = 0) (h2 : nEr n c (lxE n c p) 1 9 = 0) : RM M n c G 4 td (upd (upd (upd rp (31 + b.2 12) (nI (lxV n c p))) (35 + b.2 12) (nI (lxV n c (lxE n c p)))) 39 (nI (b.2 12 + 1))) (lxE n c (lxE n c p)) := by
  obtain ⟨-, q, -, -, -⟩ := lxE_f (c := c) hT.le hp
  obtain ⟨G1, k1, k2⟩ := num8_ok hT hp (by decide) (by decide) h hS
  obtain ⟨G2, k3, k4⟩ := num8_ok hT q (by decide) (by decide) h2 (ST_sA k2 (upd rp (31 + b.2 12) (nI (lxV n c p))))
  refine ⟨sA G2 1 (upd (upd (upd rp (31 + b.2 12) (nI (lxV n c p))) (35 + b.2 12) (nI (lxV n c (lxE n c p)))) 39 (nI (b.2 12 + 1))), ?_, ST_sA k4 _⟩
  unfold mX8_readMore
  simp (disch := omega) only [↓reduceIte, obs, esc_il, esc_ir, leT, leF, ltT, ltF, eqT, eqF, nleT, nleF, nltT, nltF, neqT, neqF, nI_add, pk_mul, ald_nI, ast_nI, irm_nI, idv_nI, zbT, zbF, in_T, in_F1, in_F2, nI_l, sI_1, sI_2, sA_1, sA_2, subK, add0, sub0, or0, lN_add, lN_mul, L_0, L_1, L_2, L_3, L_4, L_5, L_6, L_7, L_8, L_9, L_10, L_11, L_12, L_13, L_14, L_15, L_16, L_17, L_18, L_19, L_20, L_30, L_31, L_32, L_35, L_37, L_39, L_40, L_43, L_48, L_57, L_59, L_60, L_97, L_99, L_100, L_120, L_122, L_127, L_160, L_200, L_255, L_999, L_1000, L_100000, L_1000000, L_24, L_33, L_34, L_36, L_38, L_69, L_70, L_72, L_214, L_215, L_288, L_174, L_175, L_206, LL_0, LL_1, LL_2, LL_3, LL_5, LL_7, LL_9, LL_10, LL_11, LL_12, LL_19, LL_20, LL_30, LL_39, LL_48, LL_57, LL_60, LL_97, LL_99, LL_122, LL_127, LL_999, hS.pg, P0.r hv, k1, k2.pg, k3, k4.pg, upd_e, sA_sA]
theorem rm4_bad1 (hT : Tp rd M n c) {p : Nat} (hp : p ≤ n) {rp : Nat → Int32} {td : Int32} {G : GS} (hS : ST M n c rp td p G) {b : AH} (hv : PV rp 0 b) (hb : HI b) (hl : b.2 12 < 4) (h : nEr n c p 1 9 ≠ 0) : RB M G 4 td (nEr n c p 1 9) (lxS n c p) := by
  have hle := nEr_le n c p 1 9
  obtain ⟨G1, k1, k2⟩ := num8_bad hT hp (by decide) (by decide) h hS
  have k3b := BK_sA k2 (upd rp (31 + b.2 12) (nI 1))
  have k3 := num8_brk (l := 1) (m := 9) (by decide) (by decide) k3b (by omega) (by omega)
  refine ⟨_, _, ?_, BK_sA k2 (upd (upd (upd rp (31 + b.2 12) (nI 1)) (35 + b.2 12) (nI 1)) 39 (nI (b.2 12 + 1)))⟩
  unfold mX8_readMore
  simp (disch := omega) only [↓reduceIte, obs, esc_il, esc_ir, leT, leF, ltT, ltF, eqT, eqF, nleT, nleF, nltT, nltF, neqT, neqF, nI_add, pk_mul, ald_nI, ast_nI, irm_nI, idv_nI, zbT, zbF, in_T, in_F1, in_F2, nI_l, sI_1, sI_2, sA_1, sA_2, subK, add0, sub0, or0, lN_add, lN_mul, L_0, L_1, L_2, L_3, L_4, L_5, L_6, L_7, L_8, L_9, L_10, L_11, L_12, L_13, L_14, L_15, L_16, L_17, L_18, L_19, L_20, L_30, L_31, L_32, L_35, L_37, L_39, L_40, L_43, L_48, L_57, L_59, L_60, L_97, L_99, L_100, L_120, L_122, L_127, L_160, L_200, L_255, L_999, L_1000, L_100000, L_1000000, L_24, L_33, L_34, L_36, L_38, L_69, L_70, L_72, L_214, L_215, L_288, L_174, L_175, L_206, LL_0, LL_1, LL_2, LL_3, LL_5, LL_7, LL_9, LL_10, LL_11, LL_12, LL_19, LL_20, LL_30, LL_39, LL_48, LL_57, LL_60, LL_97, LL_99, LL_122, LL_127, LL_999, hS.pg, P0.r hv, k1, k2.pg, k3, upd_e, sA_sA]
theorem rm4_bad2 (hT : Tp rd M n c) {p : Nat} (hp : p ≤ n) {rp : Nat → Int32} {td : Int32} {G : GS} (hS : ST M n c rp td p G) {b : AH} (hv : PV rp 0 b) (hb : HI b) (hl : b.2 12 < 4) (h : nEr n c p 1 9 = 0) (h2 : nEr n c (lxE n c p) 1 9 ≠ 0) : RB M G 4 td (nEr n c (lxE n c p) 1 9) (lxS n c (lxE n c p)) := by
  obtain ⟨-, q, -, -, -⟩ := lxE_f (c := c) hT.le hp
  obtain ⟨G1, k1, k2⟩ := num8_ok hT hp (by decide) (by decide) h hS
  obtain ⟨G2, k3, k4⟩ := num8_bad hT q (by decide) (by decide) h2 (ST_sA k2 (upd rp (31 + b.2 12) (nI (lxV n c p))))
  refine ⟨sA G2 1 (upd (upd (upd rp (31 + b.2 12) (nI (lxV n c p))) (35 + b.2 12) (nI 1)) 39 (nI (b.2 12 + 1))), _, ?_, BK_sA k4 _⟩
  unfold mX8_readMore
  simp (disch := omega) only [↓reduceIte, obs, esc_il, esc_ir, leT, leF, ltT, ltF, eqT, eqF, nleT, nleF, nltT, nltF, neqT, neqF, nI_add, pk_mul, ald_nI, ast_nI, irm_nI, idv_nI, zbT, zbF, in_T, in_F1, in_F2, nI_l, sI_1, sI_2, sA_1, sA_2, subK, add0, sub0, or0, lN_add, lN_mul, L_0, L_1, L_2, L_3, L_4, L_5, L_6, L_7, L_8, L_9, L_10, L_11, L_12, L_13, L_14, L_15, L_16, L_17, L_18, L_19, L_20, L_30, L_31, L_32, L_35, L_37, L_39, L_40, L_43, L_48, L_57, L_59, L_60, L_97, L_99, L_100, L_120, L_122, L_127, L_160, L_200, L_255, L_999, L_1000, L_100000, L_1000000, L_24, L_33, L_34, L_36, L_38, L_69, L_70, L_72, L_214, L_215, L_288, L_174, L_175, L_206, LL_0, LL_1, LL_2, LL_3, LL_5, LL_7, LL_9, LL_10, LL_11, LL_12, LL_19, LL_20, LL_30, LL_39, LL_48, LL_57, LL_60, LL_97, LL_99, LL_122, LL_127, LL_999, hS.pg, P0.r hv, k1, k2.pg, k3, k4.pg, upd_e, sA_sA]
theorem addRoll_e {g : GS} {a : AH} (hv : HV g a) (hi : HI a) {x y : Nat} (hx : 1 ≤ x ∧ x ≤ 9) (hy : 1 ≤ y ∧ y ≤ 9) (hl : a.2 12 < 4) : mX0_addRoll g (nI x) (nI y) = some (nI (a.2 12 + 1), sI (sA (sA g 3 (upd (g.1 3) (a.2 12) (nI x))) 4 (upd (g.1 4) (a.2 12) (nI y))) 12 (nI (a.2 12 + 1))) := by
  have hb := hi.nb
  unfold mX0_addRoll
  simp (disch := omega) only [↓reduceIte, obs, esc_il, esc_ir, leT, leF, ltT, ltF, eqT, eqF, nleT, nleF, nltT, nltF, neqT, neqF, nI_add, pk_mul, ald_nI, ast_nI, irm_nI, idv_nI, zbT, zbF, in_T, in_F1, in_F2, nI_l, sI_1, sI_2, sA_1, sA_2, subK, add0, sub0, or0, lN_add, lN_mul, L_0, L_1, L_2, L_3, L_4, L_5, L_6, L_7, L_8, L_9, L_10, L_11, L_12, L_13, L_14, L_15, L_16, L_17, L_18, L_19, L_20, L_30, L_31, L_32, L_35, L_37, L_39, L_40, L_43, L_48, L_57, L_59, L_60, L_97, L_99, L_100, L_120, L_122, L_127, L_160, L_200, L_255, L_999, L_1000, L_100000, L_1000000, L_24, L_33, L_34, L_36, L_38, L_69, L_70, L_72, L_214, L_215, L_288, L_174, L_175, L_206, LL_0, LL_1, LL_2, LL_3, LL_5, LL_7, LL_9, LL_10, LL_11, LL_12, LL_19, LL_20, LL_30, LL_39, LL_48, LL_57, LL_60, LL_97, LL_99, LL_122, LL_127, LL_999, hv.r]
end
