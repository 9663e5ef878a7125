/-! the tape: bytes, tokens -/
/-- the class's reader: its fault, where, token, start, stop, number, lines told -/
def rdS (g : GS) (fa fp tk st sp nu lt : Int32) : GS := (g.1, fun k => if k = 3 then fa else if k = 4 then fp else if k = 5 then tk else if k = 6 then st else if k = 7 then sp else if k = 8 then nu else if k = 9 then lt else g.2 k)
/-- the reference: its page, what was told, broken, where, spot, here, token, value -/
def mdS (M : GS) (rp : Nat → Int32) (td br bp sp he tk va : Int32) : GS := (va_up M.1 1 rp, fun k => if k = 2 then td else if k = 6 then br else if k = 7 then bp else if k = 8 then sp else if k = 9 then he else if k = 10 then tk else if k = 11 then va else M.2 k)
theorem rd_1 (g : GS) (fa fp tk st sp nu lt : Int32) : (rdS g fa fp tk st sp nu lt).1 = g.1 := rfl
theorem rd_2 (g : GS) (fa fp tk st sp nu lt : Int32) : (rdS g fa fp tk st sp nu lt).2 2 = g.2 2 := rfl
theorem rd_3 (g : GS) (fa fp tk st sp nu lt : Int32) : (rdS g fa fp tk st sp nu lt).2 3 = fa := rfl
theorem rd_4 (g : GS) (fa fp tk st sp nu lt : Int32) : (rdS g fa fp tk st sp nu lt).2 4 = fp := rfl
theorem rd_5 (g : GS) (fa fp tk st sp nu lt : Int32) : (rdS g fa fp tk st sp nu lt).2 5 = tk := rfl
theorem rd_6 (g : GS) (fa fp tk st sp nu lt : Int32) : (rdS g fa fp tk st sp nu lt).2 6 = st := rfl
theorem rd_7 (g : GS) (fa fp tk st sp nu lt : Int32) : (rdS g fa fp tk st sp nu lt).2 7 = sp := rfl
theorem rd_8 (g : GS) (fa fp tk st sp nu lt : Int32) : (rdS g fa fp tk st sp nu lt).2 8 = nu := rfl
theorem rd_9 (g : GS) (fa fp tk st sp nu lt : Int32) : (rdS g fa fp tk st sp nu lt).2 9 = lt := rfl
theorem rd_s3 (g : GS) (fa fp tk st sp nu lt x : Int32) : sI (rdS g fa fp tk st sp nu lt) 3 x = rdS g x fp tk st sp nu lt := by
  unfold rdS sI
  refine Prod.ext rfl (funext fun k => ?_)
  show va_up _ 3 x k = _
  rw [up_e]
  by_cases h : k = 3
  · subst h; rfl
  · simp only [if_neg h]
theorem rd_s4 (g : GS) (fa fp tk st sp nu lt x : Int32) : sI (rdS g fa fp tk st sp nu lt) 4 x = rdS g fa x tk st sp nu lt := by
  unfold rdS sI
  refine Prod.ext rfl (funext fun k => ?_)
  show va_up _ 4 x k = _
  rw [up_e]
  by_cases h : k = 4
  · subst h; rfl
  · simp only [if_neg h]
theorem rd_s5 (g : GS) (fa fp tk st sp nu lt x : Int32) : sI (rdS g fa fp tk st sp nu lt) 5 x = rdS g fa fp x st sp nu lt := by
  unfold rdS sI
  refine Prod.ext rfl (funext fun k => ?_)
  show va_up _ 5 x k = _
  rw [up_e]
  by_cases h : k = 5
  · subst h; rfl
  · simp only [if_neg h]
theorem rd_s6 (g : GS) (fa fp tk st sp nu lt x : Int32) : sI (rdS g fa fp tk st sp nu lt) 6 x = rdS g fa fp tk x sp nu lt := by
  unfold rdS sI
  refine Prod.ext rfl (funext fun k => ?_)
  show va_up _ 6 x k = _
  rw [up_e]
  by_cases h : k = 6
  · subst h; rfl
  · simp only [if_neg h]
theorem rd_s7 (g : GS) (fa fp tk st sp nu lt x : Int32) : sI (rdS g fa fp tk st sp nu lt) 7 x = rdS g fa fp tk st x nu lt := by
  unfold rdS sI
  refine Prod.ext rfl (funext fun k => ?_)
  show va_up _ 7 x k = _
  rw [up_e]
  by_cases h : k = 7
  · subst h; rfl
  · simp only [if_neg h]
theorem rd_s8 (g : GS) (fa fp tk st sp nu lt x : Int32) : sI (rdS g fa fp tk st sp nu lt) 8 x = rdS g fa fp tk st sp x lt := by
  unfold rdS sI
  refine Prod.ext rfl (funext fun k => ?_)
  show va_up _ 8 x k = _
  rw [up_e]
  by_cases h : k = 8
  · subst h; rfl
  · simp only [if_neg h]
theorem rd_s9 (g : GS) (fa fp tk st sp nu lt x : Int32) : sI (rdS g fa fp tk st sp nu lt) 9 x = rdS g fa fp tk st sp nu x := by
  unfold rdS sI
  refine Prod.ext rfl (funext fun k => ?_)
  show va_up _ 9 x k = _
  rw [up_e]
  by_cases h : k = 9
  · subst h; rfl
  · simp only [if_neg h]
theorem rd_id (g : GS) : rdS g (g.2 3) (g.2 4) (g.2 5) (g.2 6) (g.2 7) (g.2 8) (g.2 9) = g := by
  unfold rdS
  refine Prod.ext rfl (funext fun k => ?_)
  show (if k = 3 then _ else _) = _
  by_cases h3 : k = 3
  · subst h3; rfl
  by_cases h4 : k = 4
  · subst h4; rfl
  by_cases h5 : k = 5
  · subst h5; rfl
  by_cases h6 : k = 6
  · subst h6; rfl
  by_cases h7 : k = 7
  · subst h7; rfl
  by_cases h8 : k = 8
  · subst h8; rfl
  by_cases h9 : k = 9
  · subst h9; rfl
  rw [if_neg h3, if_neg h4, if_neg h5, if_neg h6, if_neg h7, if_neg h8, if_neg h9]

theorem md_0 (M : GS) (rp : Nat → Int32) (td br bp sp he tk va : Int32) : (mdS M rp td br bp sp he tk va).1 0 = M.1 0 := rfl
theorem md_1 (M : GS) (rp : Nat → Int32) (td br bp sp he tk va : Int32) : (mdS M rp td br bp sp he tk va).1 1 = rp := rfl
theorem md_t (M : GS) (rp : Nat → Int32) (td br bp sp he tk va : Int32) : (mdS M rp td br bp sp he tk va).1 3 = M.1 3 := rfl
theorem md_12 (M : GS) (rp : Nat → Int32) (td br bp sp he tk va : Int32) : (mdS M rp td br bp sp he tk va).1 12 = M.1 12 := rfl
theorem md_13 (M : GS) (rp : Nat → Int32) (td br bp sp he tk va : Int32) : (mdS M rp td br bp sp he tk va).1 13 = M.1 13 := rfl
theorem md_2 (M : GS) (rp : Nat → Int32) (td br bp sp he tk va : Int32) : (mdS M rp td br bp sp he tk va).2 2 = td := rfl
theorem md_4 (M : GS) (rp : Nat → Int32) (td br bp sp he tk va : Int32) : (mdS M rp td br bp sp he tk va).2 4 = M.2 4 := rfl
theorem md_6 (M : GS) (rp : Nat → Int32) (td br bp sp he tk va : Int32) : (mdS M rp td br bp sp he tk va).2 6 = br := rfl
theorem md_7 (M : GS) (rp : Nat → Int32) (td br bp sp he tk va : Int32) : (mdS M rp td br bp sp he tk va).2 7 = bp := rfl
theorem md_8 (M : GS) (rp : Nat → Int32) (td br bp sp he tk va : Int32) : (mdS M rp td br bp sp he tk va).2 8 = sp := rfl
theorem md_9 (M : GS) (rp : Nat → Int32) (td br bp sp he tk va : Int32) : (mdS M rp td br bp sp he tk va).2 9 = he := rfl
theorem md_10 (M : GS) (rp : Nat → Int32) (td br bp sp he tk va : Int32) : (mdS M rp td br bp sp he tk va).2 10 = tk := rfl
theorem md_11 (M : GS) (rp : Nat → Int32) (td br bp sp he tk va : Int32) : (mdS M rp td br bp sp he tk va).2 11 = va := rfl
theorem md_s2 (M : GS) (rp : Nat → Int32) (td br bp sp he tk va x : Int32) : sI (mdS M rp td br bp sp he tk va) 2 x = mdS M rp x br bp sp he tk va := by
  unfold mdS sI
  refine Prod.ext rfl (funext fun k => ?_)
  show va_up _ 2 x k = _
  rw [up_e]
  by_cases h : k = 2
  · subst h; rfl
  · simp only [if_neg h]
theorem md_s6 (M : GS) (rp : Nat → Int32) (td br bp sp he tk va x : Int32) : sI (mdS M rp td br bp sp he tk va) 6 x = mdS M rp td x bp sp he tk va := by
  unfold mdS sI
  refine Prod.ext rfl (funext fun k => ?_)
  show va_up _ 6 x k = _
  rw [up_e]
  by_cases h : k = 6
  · subst h; rfl
  · simp only [if_neg h]
theorem md_s7 (M : GS) (rp : Nat → Int32) (td br bp sp he tk va x : Int32) : sI (mdS M rp td br bp sp he tk va) 7 x = mdS M rp td br x sp he tk va := by
  unfold mdS sI
  refine Prod.ext rfl (funext fun k => ?_)
  show va_up _ 7 x k = _
  rw [up_e]
  by_cases h : k = 7
  · subst h; rfl
  · simp only [if_neg h]
theorem md_s8 (M : GS) (rp : Nat → Int32) (td br bp sp he tk va x : Int32) : sI (mdS M rp td br bp sp he tk va) 8 x = mdS M rp td br bp x he tk va := by
  unfold mdS sI
  refine Prod.ext rfl (funext fun k => ?_)
  show va_up _ 8 x k = _
  rw [up_e]
  by_cases h : k = 8
  · subst h; rfl
  · simp only [if_neg h]
theorem md_s9 (M : GS) (rp : Nat → Int32) (td br bp sp he tk va x : Int32) : sI (mdS M rp td br bp sp he tk va) 9 x = mdS M rp td br bp sp x tk va := by
  unfold mdS sI
  refine Prod.ext rfl (funext fun k => ?_)
  show va_up _ 9 x k = _
  rw [up_e]
  by_cases h : k = 9
  · subst h; rfl
  · simp only [if_neg h]
theorem md_s10 (M : GS) (rp : Nat → Int32) (td br bp sp he tk va x : Int32) : sI (mdS M rp td br bp sp he tk va) 10 x = mdS M rp td br bp sp he x va := by
  unfold mdS sI
  refine Prod.ext rfl (funext fun k => ?_)
  show va_up _ 10 x k = _
  rw [up_e]
  by_cases h : k = 10
  · subst h; rfl
  · simp only [if_neg h]
theorem md_s11 (M : GS) (rp : Nat → Int32) (td br bp sp he tk va x : Int32) : sI (mdS M rp td br bp sp he tk va) 11 x = mdS M rp td br bp sp he tk x := by
  unfold mdS sI
  refine Prod.ext rfl (funext fun k => ?_)
  show va_up _ 11 x k = _
  rw [up_e]
  by_cases h : k = 11
  · subst h; rfl
  · simp only [if_neg h]
theorem md_id (M : GS) : mdS M (M.1 1) (M.2 2) (M.2 6) (M.2 7) (M.2 8) (M.2 9) (M.2 10) (M.2 11) = M := by
  unfold mdS
  refine Prod.ext (up_id2 _ _) (funext fun k => ?_)
  show (if k = 2 then _ else _) = _
  by_cases h2 : k = 2
  · subst h2; rfl
  by_cases h6 : k = 6
  · subst h6; rfl
  by_cases h7 : k = 7
  · subst h7; rfl
  by_cases h8 : k = 8
  · subst h8; rfl
  by_cases h9 : k = 9
  · subst h9; rfl
  by_cases h10 : k = 10
  · subst h10; rfl
  by_cases h11 : k = 11
  · subst h11; rfl
  rw [if_neg h2, if_neg h6, if_neg h7, if_neg h8, if_neg h9, if_neg h10, if_neg h11]

theorem md_s (M : GS) (rp rp' : Nat → Int32) (td br bp sp he tk va : Int32) : sA (mdS M rp td br bp sp he tk va) 1 rp' = mdS M rp' td br bp sp he tk va := by
  unfold mdS sA
  refine Prod.ext ?_ rfl
  show va_up (va_up M.1 1 rp) 1 rp' = va_up M.1 1 rp'
  rw [bx_uu]
/-- the tape as both have it -/
def Tp (rd M : GS) (n : Nat) (c : Nat → Nat) : Prop := n ≤ 160 ∧ rd.2 2 = nI n ∧ M.2 4 = nI n ∧ ∀ j, j < n → c j < 128 ∧ rd.1 1 j = nI (c j) ∧ M.1 3 j = nI (c j)
theorem RelT.fn {F : FS} {M : GS} (h : RelT F M) : ∃ n c, Tp (F.1 4) M n c := by
  obtain ⟨n, h1, h2, h3, h4⟩ := h
  refine ⟨n, fun j => ((F.1 4).1 1 j).toNatClampNeg, h1, h2, h3, fun j hj => ?_⟩
  obtain ⟨c, e1, e2, e3⟩ := h4 j hj
  simp only [e2]
  rw [nI_clamp (by omega)]
  exact ⟨e1, rfl, e3⟩
def bt (n : Nat) (c : Nat → Nat) (p : Nat) : Int32 := if p < n then nI (c p) else -nI 4
theorem bt_y {n : Nat} {c : Nat → Nat} {p : Nat} (h : p < n) : bt n c p = nI (c p) := if_pos h
theorem bt_n {n : Nat} {c : Nat → Nat} {p : Nat} (h : ¬ p < n) : bt n c p = -nI 4 := if_neg h
theorem byte7 {rd M : GS} {n : Nat} {c : Nat → Nat} (hT : Tp rd M n c) (fa fp tk st sp nu lt : Int32) {p : Nat} (hp : p < 2 ^ 31) : mX5_byteAt (rdS rd fa fp tk st sp nu lt) (nI p) = some (bt n c p) := by
  obtain ⟨h1, h2, h3, h4⟩ := hT
  unfold mX5_byteAt
  by_cases h : p < n
  · obtain ⟨e1, e2, e3⟩ := h4 p h
    rw [bt_y h]
    simp (disch := omega) only [↓reduceIte, obs, esc_il, esc_ir, leT, leF, ltT, ltF, eqT, eqF, nleT, nleF, nltT, nltF, neqT, neqF, nI_add, pk_mul, ald_nI, ast_nI, irm_nI, idv_nI, zbT, zbF, in_T, in_F1, in_F2, nI_l, sI_1, sI_2, sA_1, sA_2, subK, add0, sub0, or0, lN_add, lN_mul, L_0, L_1, L_2, L_3, L_4, L_5, L_6, L_7, L_8, L_9, L_10, L_11, L_12, L_13, L_14, L_15, L_16, L_17, L_18, L_19, L_20, L_30, L_31, L_32, L_35, L_37, L_39, L_40, L_43, L_48, L_57, L_59, L_60, L_97, L_99, L_100, L_120, L_122, L_127, L_160, L_200, L_255, L_999, L_1000, L_100000, L_1000000, L_24, L_33, L_34, L_36, L_38, L_69, L_70, L_72, L_214, L_215, L_288, L_174, L_175, L_206, LL_0, LL_1, LL_2, LL_3, LL_5, LL_7, LL_9, LL_10, LL_11, LL_12, LL_19, LL_20, LL_30, LL_39, LL_48, LL_57, LL_60, LL_97, LL_99, LL_122, LL_127, LL_999, rd_1, rd_2, h2, e2]
  · rw [bt_n h]
    simp (disch := omega) only [↓reduceIte, obs, esc_il, esc_ir, leT, leF, ltT, ltF, eqT, eqF, nleT, nleF, nltT, nltF, neqT, neqF, nI_add, pk_mul, ald_nI, ast_nI, irm_nI, idv_nI, zbT, zbF, in_T, in_F1, in_F2, nI_l, sI_1, sI_2, sA_1, sA_2, subK, add0, sub0, or0, lN_add, lN_mul, L_0, L_1, L_2, L_3, L_4, L_5, L_6, L_7, L_8, L_9, L_10, L_11, L_12, L_13, L_14, L_15, L_16, L_17, L_18, L_19, L_20, L_30, L_31, L_32, L_35, L_37, L_39, L_40, L_43, L_48, L_57, L_59, L_60, L_97, L_99, L_100, L_120, L_122, L_127, L_160, L_200, L_255, L_999, L_1000, L_100000, L_1000000, L_24, L_33, L_34, L_36, L_38, L_69, L_70, L_72, L_214, L_215, L_288, L_174, L_175, L_206, LL_0, LL_1, LL_2, LL_3, LL_5, LL_7, LL_9, LL_10, LL_11, LL_12, LL_19, LL_20, LL_30, LL_39, LL_48, LL_57, LL_60, LL_97, LL_99, LL_122, LL_127, LL_999, rd_1, rd_2, h2]
theorem byte8 {rd M : GS} {n : Nat} {c : Nat → Nat} (hT : Tp rd M n c) (rp : Nat → Int32) (td br bp sp he tk va : Int32) {p : Nat} (hp : p < 2 ^ 31) : mX8_byteAt (mdS M rp td br bp sp he tk va) (nI p) = some (bt n c p) := by
  obtain ⟨h1, h2, h3, h4⟩ := hT
  unfold mX8_byteAt
  by_cases h : p < n
  · obtain ⟨e1, e2, e3⟩ := h4 p h
    rw [bt_y h]
    simp (disch := omega) only [↓reduceIte, obs, esc_il, esc_ir, leT, leF, ltT, ltF, eqT, eqF, nleT, nleF, nltT, nltF, neqT, neqF, nI_add, pk_mul, ald_nI, ast_nI, irm_nI, idv_nI, zbT, zbF, in_T, in_F1, in_F2, nI_l, sI_1, sI_2, sA_1, sA_2, subK, add0, sub0, or0, lN_add, lN_mul, L_0, L_1, L_2, L_3, L_4, L_5, L_6, L_7, L_8, L_9, L_10, L_11, L_12, L_13, L_14, L_15, L_16, L_17, L_18, L_19, L_20, L_30, L_31, L_32, L_35, L_37, L_39, L_40, L_43, L_48, L_57, L_59, L_60, L_97, L_99, L_100, L_120, L_122, L_127, L_160, L_200, L_255, L_999, L_1000, L_100000, L_1000000, L_24, L_33, L_34, L_36, L_38, L_69, L_70, L_72, L_214, L_215, L_288, L_174, L_175, L_206, LL_0, LL_1, LL_2, LL_3, LL_5, LL_7, LL_9, LL_10, LL_11, LL_12, LL_19, LL_20, LL_30, LL_39, LL_48, LL_57, LL_60, LL_97, LL_99, LL_122, LL_127, LL_999, md_t, md_4, h3, e3]
  · rw [bt_n h]
    simp (disch := omega) only [↓reduceIte, obs, esc_il, esc_ir, leT, leF, ltT, ltF, eqT, eqF, nleT, nleF, nltT, nltF, neqT, neqF, nI_add, pk_mul, ald_nI, ast_nI, irm_nI, idv_nI, zbT, zbF, in_T, in_F1, in_F2, nI_l, sI_1, sI_2, sA_1, sA_2, subK, add0, sub0, or0, lN_add, lN_mul, L_0, L_1, L_2, L_3, L_4, L_5, L_6, L_7, L_8, L_9, L_10, L_11, L_12, L_13, L_14, L_15, L_16, L_17, L_18, L_19, L_20, L_30, L_31, L_32, L_35, L_37, L_39, L_40, L_43, L_48, L_57, L_59, L_60, L_97, L_99, L_100, L_120, L_122, L_127, L_160, L_200, L_255, L_999, L_1000, L_100000, L_1000000, L_24, L_33, L_34, L_36, L_38, L_69, L_70, L_72, L_214, L_215, L_288, L_174, L_175, L_206, LL_0, LL_1, LL_2, LL_3, LL_5, LL_7, LL_9, LL_10, LL_11, LL_12, LL_19, LL_20, LL_30, LL_39, LL_48, LL_57, LL_60, LL_97, LL_99, LL_122, LL_127, LL_999, md_t, md_4, h3]
def inB (n : Nat) (c : Nat → Nat) (lo hi p : Nat) : Bool := decide (p < n) && (decide (lo ≤ c p) && decide (c p ≤ hi))
theorem inB_t {n : Nat} {c : Nat → Nat} {lo hi p : Nat} : inB n c lo hi p = true ↔ p < n ∧ lo ≤ c p ∧ c p ≤ hi := by
  unfold inB; simp
theorem inB_f {n : Nat} {c : Nat → Nat} {lo hi p : Nat} : inB n c lo hi p = false ↔ ¬ (p < n ∧ lo ≤ c p ∧ c p ≤ hi) := by
  rw [← inB_t, Bool.not_eq_true]
theorem m4lt {k : Nat} (hk : k < 2 ^ 31) : (-nI 4 < nI k) = True := ngLt (x := -nI 4) (by decide) hk
theorem lett7 {n : Nat} {c : Nat → Nat} (hc : ∀ j, j < n → c j < 128) (p : Nat) : mX5_isLetter (bt n c p) = some (nI (bN (inB n c 97 122 p))) := by
  unfold mX5_isLetter
  by_cases h : p < n
  · have := hc p h
    rw [bt_y h]
    by_cases h2 : 97 ≤ c p ∧ c p ≤ 122
    · rw [inB_t.mpr ⟨h, h2⟩]
      simp (disch := omega) only [↓reduceIte, obs, esc_il, esc_ir, leT, leF, ltT, ltF, eqT, eqF, nleT, nleF, nltT, nltF, neqT, neqF, nI_add, pk_mul, ald_nI, ast_nI, irm_nI, idv_nI, zbT, zbF, in_T, in_F1, in_F2, nI_l, sI_1, sI_2, sA_1, sA_2, subK, add0, sub0, or0, lN_add, lN_mul, L_0, L_1, L_2, L_3, L_4, L_5, L_6, L_7, L_8, L_9, L_10, L_11, L_12, L_13, L_14, L_15, L_16, L_17, L_18, L_19, L_20, L_30, L_31, L_32, L_35, L_37, L_39, L_40, L_43, L_48, L_57, L_59, L_60, L_97, L_99, L_100, L_120, L_122, L_127, L_160, L_200, L_255, L_999, L_1000, L_100000, L_1000000, L_24, L_33, L_34, L_36, L_38, L_69, L_70, L_72, L_214, L_215, L_288, L_174, L_175, L_206, LL_0, LL_1, LL_2, LL_3, LL_5, LL_7, LL_9, LL_10, LL_11, LL_12, LL_19, LL_20, LL_30, LL_39, LL_48, LL_57, LL_60, LL_97, LL_99, LL_122, LL_127, LL_999, bN]
    · rw [inB_f.mpr (by omega)]
      rcases (show c p < 97 ∨ 122 < c p by omega) with h3 | h3
      · simp (disch := omega) only [↓reduceIte, obs, esc_il, esc_ir, leT, leF, ltT, ltF, eqT, eqF, nleT, nleF, nltT, nltF, neqT, neqF, nI_add, pk_mul, ald_nI, ast_nI, irm_nI, idv_nI, zbT, zbF, in_T, in_F1, in_F2, nI_l, sI_1, sI_2, sA_1, sA_2, subK, add0, sub0, or0, lN_add, lN_mul, L_0, L_1, L_2, L_3, L_4, L_5, L_6, L_7, L_8, L_9, L_10, L_11, L_12, L_13, L_14, L_15, L_16, L_17, L_18, L_19, L_20, L_30, L_31, L_32, L_35, L_37, L_39, L_40, L_43, L_48, L_57, L_59, L_60, L_97, L_99, L_100, L_120, L_122, L_127, L_160, L_200, L_255, L_999, L_1000, L_100000, L_1000000, L_24, L_33, L_34, L_36, L_38, L_69, L_70, L_72, L_214, L_215, L_288, L_174, L_175, L_206, LL_0, LL_1, LL_2, LL_3, LL_5, LL_7, LL_9, LL_10, LL_11, LL_12, LL_19, LL_20, LL_30, LL_39, LL_48, LL_57, LL_60, LL_97, LL_99, LL_122, LL_127, LL_999, bN, Bool.false_eq_true]
      · by_cases h4 : c p < 97
        · omega
        · simp (disch := omega) only [↓reduceIte, obs, esc_il, esc_ir, leT, leF, ltT, ltF, eqT, eqF, nleT, nleF, nltT, nltF, neqT, neqF, nI_add, pk_mul, ald_nI, ast_nI, irm_nI, idv_nI, zbT, zbF, in_T, in_F1, in_F2, nI_l, sI_1, sI_2, sA_1, sA_2, subK, add0, sub0, or0, lN_add, lN_mul, L_0, L_1, L_2, L_3, L_4, L_5, L_6, L_7, L_8, L_9, L_10, L_11, L_12, L_13, L_14, L_15, L_16, L_17, L_18, L_19, L_20, L_30, L_31, L_32, L_35, L_37, L_39, L_40, L_43, L_48, L_57, L_59, L_60, L_97, L_99, L_100, L_120, L_122, L_127, L_160, L_200, L_255, L_999, L_1000, L_100000, L_1000000, L_24, L_33, L_34, L_36, L_38, L_69, L_70, L_72, L_214, L_215, L_288, L_174, L_175, L_206, LL_0, LL_1, LL_2, LL_3, LL_5, LL_7, LL_9, LL_10, LL_11, LL_12, LL_19, LL_20, LL_30, LL_39, LL_48, LL_57, LL_60, LL_97, LL_99, LL_122, LL_127, LL_999, bN, Bool.false_eq_true]
  · rw [bt_n h, inB_f.mpr (fun z => h z.1)]
    simp (disch := omega) only [↓reduceIte, obs, esc_il, esc_ir, leT, leF, ltT, ltF, eqT, eqF, nleT, nleF, nltT, nltF, neqT, neqF, nI_add, pk_mul, ald_nI, ast_nI, irm_nI, idv_nI, zbT, zbF, in_T, in_F1, in_F2, nI_l, sI_1, sI_2, sA_1, sA_2, subK, add0, sub0, or0, lN_add, lN_mul, L_0, L_1, L_2, L_3, L_4, L_5, L_6, L_7, L_8, L_9, L_10, L_11, L_12, L_13, L_14, L_15, L_16, L_17, L_18, L_19, L_20, L_30, L_31, L_32, L_35, L_37, L_39, L_40, L_43, L_48, L_57, L_59, L_60, L_97, L_99, L_100, L_120, L_122, L_127, L_160, L_200, L_255, L_999, L_1000, L_100000, L_1000000, L_24, L_33, L_34, L_36, L_38, L_69, L_70, L_72, L_214, L_215, L_288, L_174, L_175, L_206, LL_0, LL_1, LL_2, LL_3, LL_5, LL_7, LL_9, LL_10, LL_11, LL_12, LL_19, LL_20, LL_30, LL_39, LL_48, LL_57, LL_60, LL_97, LL_99, LL_122, LL_127, LL_999, m4lt, bN, Bool.false_eq_true]
theorem figu7 {n : Nat} {c : Nat → Nat} (hc : ∀ j, j < n → c j < 128) (p : Nat) : mX5_isFigure (bt n c p) = some (nI (bN (inB n c 48 57 p))) := by
  unfold mX5_isFigure
  by_cases h : p < n
  · have := hc p h
    rw [bt_y h]
    by_cases h2 : 48 ≤ c p ∧ c p ≤ 57
    · rw [inB_t.mpr ⟨h, h2⟩]
      simp (disch := omega) only [↓reduceIte, obs, esc_il, esc_ir, leT, leF, ltT, ltF, eqT, eqF, nleT, nleF, nltT, nltF, neqT, neqF, nI_add, pk_mul, ald_nI, ast_nI, irm_nI, idv_nI, zbT, zbF, in_T, in_F1, in_F2, nI_l, sI_1, sI_2, sA_1, sA_2, subK, add0, sub0, or0, lN_add, lN_mul, L_0, L_1, L_2, L_3, L_4, L_5, L_6, L_7, L_8, L_9, L_10, L_11, L_12, L_13, L_14, L_15, L_16, L_17, L_18, L_19, L_20, L_30, L_31, L_32, L_35, L_37, L_39, L_40, L_43, L_48, L_57, L_59, L_60, L_97, L_99, L_100, L_120, L_122, L_127, L_160, L_200, L_255, L_999, L_1000, L_100000, L_1000000, L_24, L_33, L_34, L_36, L_38, L_69, L_70, L_72, L_214, L_215, L_288, L_174, L_175, L_206, LL_0, LL_1, LL_2, LL_3, LL_5, LL_7, LL_9, LL_10, LL_11, LL_12, LL_19, LL_20, LL_30, LL_39, LL_48, LL_57, LL_60, LL_97, LL_99, LL_122, LL_127, LL_999, bN]
    · rw [inB_f.mpr (by omega)]
      rcases (show c p < 48 ∨ 57 < c p by omega) with h3 | h3
      · simp (disch := omega) only [↓reduceIte, obs, esc_il, esc_ir, leT, leF, ltT, ltF, eqT, eqF, nleT, nleF, nltT, nltF, neqT, neqF, nI_add, pk_mul, ald_nI, ast_nI, irm_nI, idv_nI, zbT, zbF, in_T, in_F1, in_F2, nI_l, sI_1, sI_2, sA_1, sA_2, subK, add0, sub0, or0, lN_add, lN_mul, L_0, L_1, L_2, L_3, L_4, L_5, L_6, L_7, L_8, L_9, L_10, L_11, L_12, L_13, L_14, L_15, L_16, L_17, L_18, L_19, L_20, L_30, L_31, L_32, L_35, L_37, L_39, L_40, L_43, L_48, L_57, L_59, L_60, L_97, L_99, L_100, L_120, L_122, L_127, L_160, L_200, L_255, L_999, L_1000, L_100000, L_1000000, L_24, L_33, L_34, L_36, L_38, L_69, L_70, L_72, L_214, L_215, L_288, L_174, L_175, L_206, LL_0, LL_1, LL_2, LL_3, LL_5, LL_7, LL_9, LL_10, LL_11, LL_12, LL_19, LL_20, LL_30, LL_39, LL_48, LL_57, LL_60, LL_97, LL_99, LL_122, LL_127, LL_999, bN, Bool.false_eq_true]
      · simp (disch := omega) only [↓reduceIte, obs, esc_il, esc_ir, leT, leF, ltT, ltF, eqT, eqF, nleT, nleF, nltT, nltF, neqT, neqF, nI_add, pk_mul, ald_nI, ast_nI, irm_nI, idv_nI, zbT, zbF, in_T, in_F1, in_F2, nI_l, sI_1, sI_2, sA_1, sA_2, subK, add0, sub0, or0, lN_add, lN_mul, L_0, L_1, L_2, L_3, L_4, L_5, L_6, L_7, L_8, L_9, L_10, L_11, L_12, L_13, L_14, L_15, L_16, L_17, L_18, L_19, L_20, L_30, L_31, L_32, L_35, L_37, L_39, L_40, L_43, L_48, L_57, L_59, L_60, L_97, L_99, L_100, L_120, L_122, L_127, L_160, L_200, L_255, L_999, L_1000, L_100000, L_1000000, L_24, L_33, L_34, L_36, L_38, L_69, L_70, L_72, L_214, L_215, L_288, L_174, L_175, L_206, LL_0, LL_1, LL_2, LL_3, LL_5, LL_7, LL_9, LL_10, LL_11, LL_12, LL_19, LL_20, LL_30, LL_39, LL_48, LL_57, LL_60, LL_97, LL_99, LL_122, LL_127, LL_999, bN, Bool.false_eq_true]
  · rw [bt_n h, inB_f.mpr (fun z => h z.1)]
    simp (disch := omega) only [↓reduceIte, obs, esc_il, esc_ir, leT, leF, ltT, ltF, eqT, eqF, nleT, nleF, nltT, nltF, neqT, neqF, nI_add, pk_mul, ald_nI, ast_nI, irm_nI, idv_nI, zbT, zbF, in_T, in_F1, in_F2, nI_l, sI_1, sI_2, sA_1, sA_2, subK, add0, sub0, or0, lN_add, lN_mul, L_0, L_1, L_2, L_3, L_4, L_5, L_6, L_7, L_8, L_9, L_10, L_11, L_12, L_13, L_14, L_15, L_16, L_17, L_18, L_19, L_20, L_30, L_31, L_32, L_35, L_37, L_39, L_40, L_43, L_48, L_57, L_59, L_60, L_97, L_99, L_100, L_120, L_122, L_127, L_160, L_200, L_255, L_999, L_1000, L_100000, L_1000000, L_24, L_33, L_34, L_36, L_38, L_69, L_70, L_72, L_214, L_215, L_288, L_174, L_175, L_206, LL_0, LL_1, LL_2, LL_3, LL_5, LL_7, LL_9, LL_10, LL_11, LL_12, LL_19, LL_20, LL_30, LL_39, LL_48, LL_57, LL_60, LL_97, LL_99, LL_122, LL_127, LL_999, m4lt, bN, Bool.false_eq_true]
theorem in8 {n : Nat} {c : Nat → Nat} (hc : ∀ j, j < n → c j < 128) (lo hi p : Nat) (hl : lo < 1000) (hh : hi < 1000) : mX8_in (bt n c p).toInt64 (lN lo) (lN hi) = some (nI (bN (inB n c lo hi p))) := by
  by_cases h : p < n
  · have := hc p h
    rw [bt_y h]
    by_cases h2 : lo ≤ c p ∧ c p ≤ hi
    · rw [inB_t.mpr ⟨h, h2⟩]
      simp (disch := omega) only [↓reduceIte, obs, esc_il, esc_ir, leT, leF, ltT, ltF, eqT, eqF, nleT, nleF, nltT, nltF, neqT, neqF, nI_add, pk_mul, ald_nI, ast_nI, irm_nI, idv_nI, zbT, zbF, in_T, in_F1, in_F2, nI_l, sI_1, sI_2, sA_1, sA_2, subK, add0, sub0, or0, lN_add, lN_mul, L_0, L_1, L_2, L_3, L_4, L_5, L_6, L_7, L_8, L_9, L_10, L_11, L_12, L_13, L_14, L_15, L_16, L_17, L_18, L_19, L_20, L_30, L_31, L_32, L_35, L_37, L_39, L_40, L_43, L_48, L_57, L_59, L_60, L_97, L_99, L_100, L_120, L_122, L_127, L_160, L_200, L_255, L_999, L_1000, L_100000, L_1000000, L_24, L_33, L_34, L_36, L_38, L_69, L_70, L_72, L_214, L_215, L_288, L_174, L_175, L_206, LL_0, LL_1, LL_2, LL_3, LL_5, LL_7, LL_9, LL_10, LL_11, LL_12, LL_19, LL_20, LL_30, LL_39, LL_48, LL_57, LL_60, LL_97, LL_99, LL_122, LL_127, LL_999, bN]
    · rw [inB_f.mpr (by omega)]
      rcases (show c p < lo ∨ hi < c p by omega) with h3 | h3
      · simp (disch := omega) only [↓reduceIte, obs, esc_il, esc_ir, leT, leF, ltT, ltF, eqT, eqF, nleT, nleF, nltT, nltF, neqT, neqF, nI_add, pk_mul, ald_nI, ast_nI, irm_nI, idv_nI, zbT, zbF, in_T, in_F1, in_F2, nI_l, sI_1, sI_2, sA_1, sA_2, subK, add0, sub0, or0, lN_add, lN_mul, L_0, L_1, L_2, L_3, L_4, L_5, L_6, L_7, L_8, L_9, L_10, L_11, L_12, L_13, L_14, L_15, L_16, L_17, L_18, L_19, L_20, L_30, L_31, L_32, L_35, L_37, L_39, L_40, L_43, L_48, L_57, L_59, L_60, L_97, L_99, L_100, L_120, L_122, L_127, L_160, L_200, L_255, L_999, L_1000, L_100000, L_1000000, L_24, L_33, L_34, L_36, L_38, L_69, L_70, L_72, L_214, L_215, L_288, L_174, L_175, L_206, LL_0, LL_1, LL_2, LL_3, LL_5, LL_7, LL_9, LL_10, LL_11, LL_12, LL_19, LL_20, LL_30, LL_39, LL_48, LL_57, LL_60, LL_97, LL_99, LL_122, LL_127, LL_999, bN, Bool.false_eq_true]
      · simp (disch := omega) only [↓reduceIte, obs, esc_il, esc_ir, leT, leF, ltT, ltF, eqT, eqF, nleT, nleF, nltT, nltF, neqT, neqF, nI_add, pk_mul, ald_nI, ast_nI, irm_nI, idv_nI, zbT, zbF, in_T, in_F1, in_F2, nI_l, sI_1, sI_2, sA_1, sA_2, subK, add0, sub0, or0, lN_add, lN_mul, L_0, L_1, L_2, L_3, L_4, L_5, L_6, L_7, L_8, L_9, L_10, L_11, L_12, L_13, L_14, L_15, L_16, L_17, L_18, L_19, L_20, L_30, L_31, L_32, L_35, L_37, L_39, L_40, L_43, L_48, L_57, L_59, L_60, L_97, L_99, L_100, L_120, L_122, L_127, L_160, L_200, L_255, L_999, L_1000, L_100000, L_1000000, L_24, L_33, L_34, L_36, L_38, L_69, L_70, L_72, L_214, L_215, L_288, L_174, L_175, L_206, LL_0, LL_1, LL_2, LL_3, LL_5, LL_7, LL_9, LL_10, LL_11, LL_12, LL_19, LL_20, LL_30, LL_39, LL_48, LL_57, LL_60, LL_97, LL_99, LL_122, LL_127, LL_999, bN, Bool.false_eq_true]
  · rw [bt_n h, inB_f.mpr (fun z => h z.1)]
    exact in_ng (by decide) (by omega) _
theorem btE {n : Nat} {c : Nat → Nat} (hc : ∀ j, j < n → c j < 128) (p : Nat) {k : Nat} (hk : k < 1000) : (bt n c p = nI k) ↔ (p < n ∧ c p = k) := by
  by_cases h : p < n
  · have := hc p h
    rw [bt_y h, nI_eq (by omega) (by omega)]
    exact ⟨fun z => ⟨h, z⟩, fun z => z.2⟩
  · rw [bt_n h]
    exact ⟨fun z => absurd z.symm (of_eq_false (m4N (t := k) (by omega))), fun z => absurd z.1 h⟩
theorem btM {n : Nat} {c : Nat → Nat} (hc : ∀ j, j < n → c j < 128) (p : Nat) : (bt n c p = -nI 4) ↔ ¬ p < n := by
  by_cases h : p < n
  · have := hc p h
    rw [bt_y h]
    exact ⟨fun z => absurd z (of_eq_false (m4N (t := c p) (by omega))), fun z => absurd h z⟩
  · rw [bt_n h]; exact ⟨fun _ => h, fun _ => rfl⟩
/-- the end of a stretch -/
def scn (P : Nat → Bool) : Nat → Nat → Nat
  | 0, p => p
  | d + 1, p => if P p then scn P d (p + 1) else p
theorem scn_ge (P : Nat → Bool) : ∀ d p, p ≤ scn P d p ∧ scn P d p ≤ p + d
  | 0, p => ⟨Nat.le_refl _, Nat.le_refl _⟩
  | d + 1, p => by
    have := scn_ge P d (p + 1)
    rw [scn]
    split <;> omega
theorem scn_in (P : Nat → Bool) : ∀ d p q, p ≤ q → q < scn P d p → P q = true
  | 0, p, q, h1, h2 => absurd h2 (by rw [scn]; omega)
  | d + 1, p, q, h1, h2 => by
    rw [scn] at h2
    split at h2
    · rename_i h
      by_cases e : q = p
      · rw [e]; exact h
      · exact scn_in P d (p + 1) q (by omega) h2
    · omega
theorem scn_out (P : Nat → Bool) {n : Nat} (hP : ∀ q, n ≤ q → P q = false) : ∀ d p, n ≤ p + d → P (scn P d p) = false
  | 0, p, h => hP _ (by rw [scn]; omega)
  | d + 1, p, h => by
    rw [scn]
    split
    · exact scn_out P hP d (p + 1) (by omega)
    · rename_i h2; simpa using h2
theorem scn_le (P : Nat → Bool) {n : Nat} (hP : ∀ q, n ≤ q → P q = false) {d p : Nat} (hp : p ≤ n) : scn P d p ≤ n := by
  rcases Nat.lt_or_ge n (scn P d p) with h | h
  · have := scn_in P d p n hp h
    rw [hP n (Nat.le_refl _)] at this
    cases this
  · exact h
theorem inB_o {n : Nat} {c : Nat → Nat} {lo hi : Nat} (q : Nat) (h : n ≤ q) : inB n c lo hi q = false := inB_f.mpr (by omega)
/-- where the next token starts, where it ends, what it is, its number -/
def lxS (n : Nat) (c : Nat → Nat) (p : Nat) : Nat := scn (inB n c 32 32) 200 p
def lxE (n : Nat) (c : Nat → Nat) (p : Nat) : Nat := if lxS n c p < n then (if inB n c 97 122 (lxS n c p) then scn (inB n c 97 122) 200 (lxS n c p) else if inB n c 48 57 (lxS n c p) then scn (inB n c 48 57) 200 (lxS n c p) else lxS n c p + 1) else lxS n c p
def lxT (n : Nat) (c : Nat → Nat) (p : Nat) : Nat := if lxS n c p < n then (if inB n c 97 122 (lxS n c p) then 1 else if inB n c 48 57 (lxS n c p) then (if lxE n c p - lxS n c p ≤ 2 then 2 else 4) else if c (lxS n c p) = 59 then 3 else 4) else 0
def vz (c : Nat → Nat) (s : Nat) : Nat → Nat
  | 0 => 0
  | d + 1 => if d < 2 then 10 * vz c s d + c (s + d) - 48 else vz c s d
def lxV (n : Nat) (c : Nat → Nat) (p : Nat) : Nat := vz c (lxS n c p) (lxE n c p - lxS n c p)
def nz (c : Nat → Nat) (s : Nat) : Nat → Int32
  | 0 => nI 0
  | d + 1 => nz c s d * nI 10 + nI (c (s + d)) - nI 48
